/-! ===== the class: a text is read, from its beginning ===== -/
section ZC47
variable {l : Launch} {G : zq_G} {D N : Nat} {c v pl : Nat → Nat} {tk : Nat → Int32} {o : Bool} {post : Option Value → Nat → (Nat → zq_E) → Prop}
theorem zpC2_k {one : zQ → zQ} (hT : zTm N c v pl tk) (hone : zgd N one) : ∀ f i q, zqk N q → zqk N (zpC2 c pl one f i q)
  | 0, _, _, h => h
  | f + 1, i, q, h => by
    unfold zpC2
    by_cases ha : zpt c q 159 = true
    · rw [if_pos ha]
      obtain ⟨z1, z2, z3⟩ := zpt_c hT (zqk_w h) (by decide) ha
      have k1 := zqk_nx h z2
      refine zpC2_k hT hone f (i + 1) _ ?_
      have k2 : zqk N (if i = 12 then zpf pl (zpn q) else zpn q) := by
        split
        · exact (zgd_f hT.2.2.2.1 _ k1).1
        · exact k1
      generalize (if i = 12 then zpf pl (zpn q) else zpn q) = q2 at k2 ⊢
      split
      · exact (hone _ k2).1
      · exact k2
    · rw [if_neg ha]
      exact h
theorem zc_read {n z : Nat} {κ : zl_S} {ρ : Nat → zq_E} {one : zQ → zQ} {PC : Nat → Nat → (Nat → Nat × Nat) → Nat → (Nat → Int32) → Prop} (hD : 45 ≤ D) (hz : z ≤ 400) (hn : 62 ≤ n) (hU : ∀ j, j < z → ∃ x, x < 256 ∧ κ.2.1 47 j = nI x)
    (hone : zgd (zTok (κ.2.1 47) z).length one) (hH : zHC l G (zTok (κ.2.1 47) z).length (zpN (κ.2.1 47) z) (ztkN (κ.2.1 47) z) o (D - 1) one PC)
    (hm : ∀ a b cd cd' N N' F, PC a b cd N F → N ≤ N' → (∀ k, k < N → cd' k = cd k) → PC a b cd' N' F) (Q Qf : zQ) (hQ : zpC2 (zcN (κ.2.1 47) z) (zpN (κ.2.1 47) z) one 402 1 (one (0, 0, 0)) = Q)
    (hQf : (if Q.2.2 = 0 ∧ Q.1 < (zTok (κ.2.1 47) z).length then zpf (zpN (κ.2.1 47) z) Q else Q) = Qf)
    (hbad : Qf.2.2 ≠ 0 → ∀ κ' ρ' n', zRg κ' κ → κ'.1 48 7 = nI (Qf.2.2 - 1) → (∀ k, k < n + 8 → ρ' k = ρ k) → n ≤ n' → (∀ k fs, n + 8 ≤ k → k < n' + 8 → ρ' k ≠ .inr (7, fs)) → post (some .null) n' (zl_h κ' ρ'))
    (hgood : Qf.2.2 = 0 → ∀ κ' ρ' n' cs cd sz F, zRg κ' κ → κ'.1 48 7 = -1 → (∀ k, k < n + 8 → ρ' k = ρ k) → n ≤ n' → (∀ k fs, n + 8 ≤ k → k < n' + 8 → ρ' k ≠ .inr (7, fs)) → (∀ ρ2, (∀ k, n + 8 ≤ k → k < n' + 8 → ρ2 k = ρ' k) → zTS ρ2 (n + 8) sz cs cd F) → 1 ≤ sz → (∃ s e : Nat → Nat, s 0 = 0 ∧ (∀ i, i < sz → PC (s i) (e i) cd cs (F i)) ∧ (∀ i, i + 1 < sz → s (i + 1) = e i + 1) ∧ e (sz - 1) = (zTok (κ.2.1 47) z).length) → post (some (.ref (n + 8))) n' (zl_h κ' ρ')) :
    zq_Runs l G D 15 887 yX8_read [.ref 48, .ref 47, .int (nI z), .int (zb o)] n (zl_h κ ρ) post := by
  have hmin : (if nI 400 < nI z then nI 400 else nI z) = nI z := if_neg (nI_nlt hz (by decide))
  refine zq_enter (cc := cX8_read) (nL := 6) (ret := (some (.object "LetterQuay$Text"))) cw_X8_read (by decide) rfl (Nat.le_of_ble_eq_true rfl) ?_
  refine at_aload_n dX8_read_0 rfl ?_
  refine at_aload_n dX8_read_1 rfl ?_
  refine at_iload_n dX8_read_2 rfl ?_
  refine at_sipush dX8_read_3 (v := nI 400) (by decide) ?_
  refine at_mmin dX8_read_6 (ms_X8_41.1.resolve_right (by decide)) (Nat.le_of_ble_eq_true rfl) ⟨by show 1 ≤ D; omega, by show 21 ≤ 60 * D; omega, by show 0 ≤ 15; omega, by show 0 ≤ 887; omega⟩ ?_
  rw [hmin]
  refine at_callV2 (d := D - 1) dX8_read_9 mv_X8_47 (zl_o rfl) (Nat.le_of_ble_eq_true rfl) (zq_r0 (by omega) (by omega) (by omega)) ?_
  refine zc_split (by omega) rfl rfl (by decide) (by decide) hz (fun κ2 g1 g2 g3 g4 g5 => ?_)
  have hT := zTm_of hz g5 hU
  have hTk0 : κ2.2.1 49 0 = ztkN (κ.2.1 47) z 0 := by
    rcases Nat.eq_zero_or_pos (zTok (κ.2.1 47) z).length with e | e
    · rw [show κ2.2.1 49 0 = κ2.2.1 49 (zTok (κ.2.1 47) z).length by rw [e], g3]
      unfold ztkN
      rw [List.getElem?_eq_none (by omega)]
    · unfold ztkN
      rw [List.getElem?_eq_getElem e]
      exact (g2 0 _ (List.getElem?_eq_getElem e)).1
  have hRw : ∀ κ3 : zl_S, κ3.2.1 = κ2.2.1 → κ3.1 48 8 = zb o → zRw κ3 (zTok (κ.2.1 47) z).length (zpN (κ.2.1 47) z) (ztkN (κ.2.1 47) z) o := by
    intro κ3 e1 e2
    refine zRw_of (fun i q hq => ?_) ?_ ?_ e2
    · rw [e1]; exact g2 i q hq
    · rw [e1]; exact g3
    · rw [e1]; exact g4
  generalize hNN : (zTok (κ.2.1 47) z).length = N at *
  generalize zcN (κ.2.1 47) z = c at *
  generalize zvN (κ.2.1 47) z = v at *
  generalize zpN (κ.2.1 47) z = pl at *
  generalize ztkN (κ.2.1 47) z = tk at *
  refine at_aload_n dX8_read_12 rfl ?_
  refine at_iload_n dX8_read_13 rfl ?_
  refine at_lput dX8_read_14 (pl_X8_37 _) (fun _ => ⟨_, rfl, Nat.le_of_ble_eq_true rfl, fun _ => rfl⟩) (by cases o <;> rfl) (by cases o <;> rfl) ?_
  refine at_aload_n dX8_read_17 rfl ?_
  refine at_iconst dX8_read_18 (v := nI 0) (by decide) ?_
  refine at_lput dX8_read_19 (pl_X8_18 _) (fun i => ⟨_, rfl, Nat.le_of_ble_eq_true rfl, fun v => rfl⟩) rfl rfl ?_
  refine at_aload_n dX8_read_22 rfl ?_
  refine at_aload_n dX8_read_23 rfl ?_
  refine at_get dX8_read_24 fl_X8_11 (zl_o rfl) rfl ?_
  refine at_iconst dX8_read_27 (v := nI 0) (by decide) ?_
  refine at_lald2 (a := 49) dX8_read_28 rfl rfl (by show _ < 401; omega) (by decide) ?_
  refine at_lput dX8_read_29 (pl_X8_22 _) (fun i => ⟨_, rfl, Nat.le_of_ble_eq_true rfl, fun v => rfl⟩) rfl rfl ?_
  refine at_aload_n dX8_read_32 rfl ?_
  refine at_iconst dX8_read_33 (v := nI 0) (by decide) ?_
  refine at_lput dX8_read_34 (pl_X8_28 _) (fun i => ⟨_, rfl, Nat.le_of_ble_eq_true rfl, fun v => rfl⟩) rfl rfl ?_
  refine at_aload_n dX8_read_37 rfl ?_
  refine at_iconst dX8_read_38 (v := nI 0) (by decide) ?_
  refine at_lput dX8_read_39 (pl_X8_31 _) (fun i => ⟨_, rfl, Nat.le_of_ble_eq_true rfl, fun v => rfl⟩) rfl rfl ?_
  refine at_aload_n dX8_read_42 rfl ?_
  refine at_iconst dX8_read_43 (v := -1) rfl ?_
  refine at_lput dX8_read_44 (pl_X8_34 _) (fun i => ⟨_, rfl, Nat.le_of_ble_eq_true rfl, fun v => rfl⟩) rfl rfl ?_
  rw [show (zl_si (zl_si κ2 48 8 (zb o)) 48 2 (nI 0)).2.1 49 0 = tk 0 from hTk0]
  generalize hκ3 : zl_si (zl_si (zl_si (zl_si (zl_si (zl_si κ2 48 8 (zb o)) 48 2 (nI 0)) 48 3 (tk 0)) 48 5 (nI 0)) 48 6 (nI 0)) 48 7 (-1) = κ3
  have f2 : κ3.1 48 2 = nI 0 := by rw [← hκ3]; rfl
  have f3 : κ3.1 48 3 = tk 0 := by rw [← hκ3]; rfl
  have f5 : κ3.1 48 5 = nI 0 := by rw [← hκ3]; rfl
  have f6 : κ3.1 48 6 = nI 0 := by rw [← hκ3]; rfl
  have f7 : κ3.1 48 7 = -1 := by rw [← hκ3]; rfl
  have f8 : κ3.1 48 8 = zb o := by rw [← hκ3]; rfl
  have hR3 := hRw κ3 (by rw [← hκ3]; rfl) f8
  have hg3 : zRg κ3 κ := by rw [← hκ3]; exact zRg_i (zRg_i (zRg_i (zRg_i (zRg_i (zRg_i (zRg_s g1) _ _) _ _) _ _) _ _) _ _) _ _
  have hP3 : zPs κ3 tk (0, 0, 0) 0 (fun _ => (0, 0)) := ⟨f5, Nat.zero_le _, Or.inl ⟨rfl, f2, f3, f6, f7, fun k hk => absurd hk (Nat.not_lt_zero _)⟩⟩
  have hq0 : zqk N (0, 0, 0) := ⟨Nat.zero_le _, Nat.zero_le _, fun _ => Nat.le_refl _, Nat.zero_le _⟩
  clear hκ3 hRw f2 f3 f5 f6 f7 f8
  refine at_new (ci := 10) (T := TX10) (N := 3) (fs := [.null, .int 0, .null]) dX8_read_47 rfl cl_X8_51 zq_i10 zq_n10 (fun G j hj => ?_) (by show 0 + 1 ≤ 15; omega) (by show 0 + 3 ≤ 887; omega) ?_
  · rcases (show j = 0 ∨ j = 1 ∨ j = 2 by omega) with rfl | rfl | rfl <;> rfl
  rw [zl_up (by omega)]
  refine at_dup dX8_read_50 rfl ?_
  refine at_callC (d := D - 1) [] dX8_read_51 mc_X8_53 rfl (Nat.le_of_ble_eq_true rfl) ⟨by show D - 1 + 1 ≤ D; omega, by show 60 * (D - 1) + 59 ≤ 60 * D; omega, by show 0 + 1 + 1 ≤ 15; omega, by show 0 + 3 + 12 ≤ 887; omega⟩ (zq_vo_ret zq_vo_10) ?_
  refine zc_textInit (by omega) (by omega) (by omega) (va_up_self _ _ _) (fun ρ1 r1 r2 => ?_)
  have r3 : ∀ k, k < n + 8 → ρ1 k = ρ k := fun k hk => (r1 k hk).trans (va_up_ne _ _ (by omega))
  refine at_astore dX8_read_54 (by decide) ?_
  refine at_aload_n dX8_read_56 rfl ?_
  refine at_aload dX8_read_57 rfl ?_
  refine at_callV1 (d := D - 1) dX8_read_59 mv_X8_54 (zl_o rfl) (Nat.le_of_ble_eq_true rfl) ⟨by show D - 1 + 1 ≤ D; omega, by show 60 * (D - 1) + 59 ≤ 60 * D; omega, by show 0 + 1 + 1 + 1 ≤ 15; omega, by show 0 + 3 + 12 + 6 ≤ 887; omega⟩ ?_
  refine hH (n + 1 + 1) ρ1 κ3 (0, 0, 0) 0 (fun _ => (0, 0)) (n + 8) 0 (fun _ _ => 0) _ hR3 hq0 hP3 (fun _ => ⟨Nat.zero_le _, Nat.zero_le _⟩) (by omega) (by omega) (r2 _) (by decide) (fun κ4 cs4 cd4 ρ4 F4 j1 j2 j3 j4 j5 => ?_)
  have hone0 := (hone _ hq0).1
  have hcl : zCls c PC (one (0, 0, 0)) cs4 cd4 1 (fun i => if i = 0 then F4 else (fun _ => 0)) := by
    intro e0
    obtain ⟨b1, b2, b3, b4, b5, b6⟩ := j3 e0
    refine ⟨b2, b3, fun _ => 0, fun _ => (one (0, 0, 0)).1, rfl, fun i hi => ?_, fun i hi => absurd hi (by omega), fun _ => rfl⟩
    obtain rfl : i = 0 := by omega
    exact b6
  have hlp := zc_read_loop (l := l) (G := G) (D := D) (c := c) (v := v) (post := post) (B := n + 8) (κ0 := κ3) (ρ0 := ρ) (by omega) hT hR3 hone (by omega) hH hm Q (fun n' ρ' κ' cs' cd' sz' F' cells slots k1 k2 k3 k4 k5 k6 k7 k8 k9 k10 k11 => zc_read_end (n0 := n) (κ0 := κ) (by omega) rfl (by omega) hT (zRw_f k1 hR3) (by rw [← hQ]; exact zpC2_k hT hone _ _ _ hone0) (zRg_f k1 hg3) k2 k3 k4 k5 k6 k7 k8 k9 k10 k11 (by rw [hQf]; exact hbad) (by rw [hQf]; exact hgood)) 402 (n + 1 + 1 + 1) ρ4 κ4 (one (0, 0, 0)) cs4 cd4 1 _ (by omega) hone0 j1 j2 hcl (fun k hk => (j4 k hk).trans (r3 k hk)) j5 (by omega) (by omega) (by omega) hQ
  refine at_iconst dX8_read_62 (v := nI 0) (by decide) ?_
  refine at_istore dX8_read_63 (by decide) ?_
  exact at_lv [0, 4, 5] hlp
end ZC47

