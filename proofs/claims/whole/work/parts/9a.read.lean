/-! ===== the class: a text is read ===== -/
theorem ml_J7_304 : Cond.methodLink RJ7 304 yJ9_min_7cf53 ∈ zq_ws := zq_in (zq_t3 (List.mem_of_getElem? (i := 209) rfl)) rfl
theorem zq_ai : Cond.arrayClass .int ∈ zq_ws := zq_in (zq_t1 (List.mem_of_getElem? (i := 99) rfl)) rfl
theorem zq_i10 : Cond.instantiable RX10 3 ∈ zq_ws := zq_in (zq_t3 (List.mem_of_getElem? (i := 53) rfl)) rfl
theorem zq_n10 : Cond.initialized RX10 ∈ zq_ws := zq_in (zq_t1 (List.mem_of_getElem? (i := 17) rfl)) rfl
theorem zq_vo_10 : zq_ws.all (zq_vo yX10_init) = true := by decide +kernel
theorem dJ7_copyOf_59c91_0 : decode cJ7_copyOf_59c91 0 = .ok (.iload_n 1, 1) := by decide +kernel
theorem dJ7_copyOf_59c91_1 : decode cJ7_copyOf_59c91 1 = .ok (.aload_n 0, 1) := by decide +kernel
theorem dJ7_copyOf_59c91_2 : decode cJ7_copyOf_59c91 2 = .ok (.arraylength, 1) := by decide +kernel
theorem dJ7_copyOf_59c91_3 : decode cJ7_copyOf_59c91 3 = .ok (.if_icmp .ne 11, 3) := by decide +kernel
theorem dJ7_copyOf_59c91_6 : decode cJ7_copyOf_59c91 6 = .ok (.aload_n 0, 1) := by decide +kernel
theorem dJ7_copyOf_59c91_7 : decode cJ7_copyOf_59c91 7 = .ok (.invokevirtual 316, 3) := by decide +kernel
theorem dJ7_copyOf_59c91_10 : decode cJ7_copyOf_59c91 10 = .ok (.checkcast 317, 3) := by decide +kernel
theorem dJ7_copyOf_59c91_13 : decode cJ7_copyOf_59c91 13 = .ok (.areturn, 1) := by decide +kernel
theorem dJ7_copyOf_59c91_14 : decode cJ7_copyOf_59c91 14 = .ok (.iload_n 1, 1) := by decide +kernel
theorem dJ7_copyOf_59c91_15 : decode cJ7_copyOf_59c91 15 = .ok (.newarray .int, 2) := by decide +kernel
theorem dJ7_copyOf_59c91_17 : decode cJ7_copyOf_59c91 17 = .ok (.astore_n 2, 1) := by decide +kernel
theorem dJ7_copyOf_59c91_18 : decode cJ7_copyOf_59c91 18 = .ok (.aload_n 0, 1) := by decide +kernel
theorem dJ7_copyOf_59c91_19 : decode cJ7_copyOf_59c91 19 = .ok (.iconst 0, 1) := by decide +kernel
theorem dJ7_copyOf_59c91_20 : decode cJ7_copyOf_59c91 20 = .ok (.aload_n 2, 1) := by decide +kernel
theorem dJ7_copyOf_59c91_21 : decode cJ7_copyOf_59c91 21 = .ok (.iconst 0, 1) := by decide +kernel
theorem dJ7_copyOf_59c91_22 : decode cJ7_copyOf_59c91 22 = .ok (.aload_n 0, 1) := by decide +kernel
theorem dJ7_copyOf_59c91_23 : decode cJ7_copyOf_59c91 23 = .ok (.arraylength, 1) := by decide +kernel
theorem dJ7_copyOf_59c91_24 : decode cJ7_copyOf_59c91 24 = .ok (.iload_n 1, 1) := by decide +kernel
theorem dJ7_copyOf_59c91_25 : decode cJ7_copyOf_59c91 25 = .ok (.invokestatic 304, 3) := by decide +kernel
theorem dJ7_copyOf_59c91_28 : decode cJ7_copyOf_59c91 28 = .ok (.invokestatic 150, 3) := by decide +kernel
theorem dJ7_copyOf_59c91_31 : decode cJ7_copyOf_59c91 31 = .ok (.aload_n 2, 1) := by decide +kernel
theorem dJ7_copyOf_59c91_32 : decode cJ7_copyOf_59c91 32 = .ok (.areturn, 1) := by decide +kernel
abbrev mJ7_copyOf_59c91 : zq_M := (cJ7_copyOf_59c91, RJ7, "copyOf", (some (.array .int)), 3)
section ZC45
variable {l : Launch} {G : zq_G} {D n : Nat} {ρ : Nat → zq_E} {post : Option Value → Nat → (Nat → zq_E) → Prop} {κ : zl_S}
theorem zj_copyOf {cs : Nat} (hD : 1 ≤ D) (hcs : cs < 800) (hn : 62 ≤ n) (hp : post (some (.ref (n + 8))) (n + 1) (zl_h κ (va_up ρ (n + 8) (.inl (0, cs, .inl (va_cpy (κ.2.1 51) (fun _ => 0) 0 0 cs)))))) : zq_Runs l G D 1 cs yJ7_copyOf_59c91 [.ref 51, .int (nI cs)] n (zl_h κ ρ) post := by
  have hlt : nI cs < nI 800 := nI_lt hcs (by decide)
  have x1 : ∀ ρ', zl_h κ ρ' 51 = .inl (0, 800, .inl (κ.2.1 51)) := fun ρ' => zl_a (a := 51) rfl
  refine zq_enter (cc := cJ7_copyOf_59c91) (nL := 3) (ret := (some (.array .int))) cw_J7_copyOf_59c91 (by decide) rfl (Nat.le_of_ble_eq_true rfl) ?_
  refine at_iload_n dJ7_copyOf_59c91_0 rfl ?_
  refine at_aload_n dJ7_copyOf_59c91_1 rfl ?_
  refine at_alen dJ7_copyOf_59c91_2 (x1 _) (by decide) (v := nI 800) rfl ?_
  refine at_neN (tgt := 14) dJ7_copyOf_59c91_3 (by decide) (by omega) (by omega) (fun _ => ?_) (fun c3 => absurd c3 (by omega))
  refine at_iload_n dJ7_copyOf_59c91_14 rfl ?_
  refine at_newa (t := 0) (N := cs) (by decide) dJ7_copyOf_59c91_15 zq_ai (nI_pos (by omega)) (nI_clamp (by omega)) (by omega) (by show 0 + 1 ≤ 1; omega) (by show 0 + cs ≤ cs; omega) ?_
  rw [zl_up (by omega)]
  refine at_astore_n dJ7_copyOf_59c91_17 rfl (by decide) ?_
  refine at_aload_n dJ7_copyOf_59c91_18 rfl ?_
  refine at_iconst dJ7_copyOf_59c91_19 (v := nI 0) (by decide) ?_
  refine at_aload_n dJ7_copyOf_59c91_20 rfl ?_
  refine at_iconst dJ7_copyOf_59c91_21 (v := nI 0) (by decide) ?_
  refine at_aload_n dJ7_copyOf_59c91_22 rfl ?_
  refine at_alen dJ7_copyOf_59c91_23 (x1 _) (by decide) (v := nI 800) rfl ?_
  refine at_iload_n dJ7_copyOf_59c91_24 rfl ?_
  refine at_mmin dJ7_copyOf_59c91_25 ml_J7_304 (Nat.le_of_ble_eq_true rfl) ⟨by show 1 ≤ D; omega, by show 21 ≤ 60 * D; omega, by show 0 + 1 ≤ 1; omega, by show 0 + cs ≤ cs; omega⟩ ?_
  rw [if_pos hlt]
  refine at_copyi dJ7_copyOf_59c91_28 ac_J7_150 (x1 _) ((zl_hi _ _ (Or.inr (by omega))).trans (va_up_self _ _ _)) (by omega) (by omega) (by decide) (by omega) (Nat.le_of_ble_eq_true rfl) ⟨by show 1 ≤ D; omega, by show 26 ≤ 60 * D; omega⟩ ?_
  rw [zl_up (by omega), zce_up]
  refine at_aload_n dJ7_copyOf_59c91_31 rfl ?_
  exact at_aret (r := some (n + 8)) dJ7_copyOf_59c91_32 rfl (Or.inr ⟨_, rfl⟩) (by omega) (by omega) hp
/-- alike but for the reader -/
def zRg (κ' κ : zl_S) : Prop := (∀ o, o ≠ 48 → κ'.1 o = κ.1 o) ∧ (∀ a, a ≠ 49 → a ≠ 50 → a ≠ 51 → κ'.2.1 a = κ.2.1 a) ∧ κ'.2.2 = κ.2.2
theorem zRg_f {κ2 κ1 κ : zl_S} (h : zRf κ2 κ1) (g : zRg κ1 κ) : zRg κ2 κ := ⟨fun o ho => (h.1 o ho).trans (g.1 o ho), fun a h1 h2 h3 => (h.2.2.1 a h3).trans (g.2.1 a h1 h2 h3), h.2.2.2.trans g.2.2⟩
theorem zRg_s {κ1 κ : zl_S} (h : zSf κ1 κ) : zRg κ1 κ := ⟨fun o _ => by rw [h.1], fun a h1 h2 _ => h.2.1 a h1 h2, h.2.2⟩
theorem zRg_i {κ1 κ : zl_S} (h : zRg κ1 κ) (k : Nat) (v : Int32) : zRg (zl_si κ1 48 k v) κ := ⟨fun o ho => (zsi2_o _ ho _ _).trans (h.1 o ho), h.2.1, h.2.2⟩
end ZC45
section ZC46
variable {l : Launch} {G : zq_G} {D N : Nat} {c v pl : Nat → Nat} {tk : Nat → Int32} {o : Bool} {post : Option Value → Nat → (Nat → zq_E) → Prop}
/-- all read, from 98 on -/
theorem zc_read_end {n n0 B sz cells slots cs : Nat} {Q : zQ} {κ κ0 : zl_S} {ρ ρ0 : Nat → zq_E} {cd : Nat → Nat × Nat} {F : Nat → Nat → Int32} {PC : Nat → Nat → (Nat → Nat × Nat) → Nat → (Nat → Int32) → Prop} (hD : 44 ≤ D) (hB0 : B = n0 + 8) (hB : 70 ≤ B) (hT : zTm N c v pl tk) (hR : zRw κ N pl tk o) (hq : zqk N Q) (hκ : zRg κ κ0) (hs : zPs κ tk Q cs cd) (hcl : zCls c PC Q cs cd sz F) (hρ : ∀ k, k < B → ρ k = ρ0 k) (hX : zTb ρ B sz F) (hn : n + 8 = B + 2 + sz) (h1 : 1 ≤ sz) (h12 : sz ≤ 12) (hce : Q.2.2 = 0 → cells = 2 + sz ∧ slots = 15 + 6 * sz) (hc15 : cells ≤ 15) (hs93 : slots ≤ 93)
    (hbad : (if Q.2.2 = 0 ∧ Q.1 < N then zpf pl Q else Q).2.2 ≠ 0 → ∀ κ' ρ' n', zRg κ' κ0 → κ'.1 48 7 = nI ((if Q.2.2 = 0 ∧ Q.1 < N then zpf pl Q else Q).2.2 - 1) → (∀ k, k < B → ρ' k = ρ0 k) → n0 ≤ n' → (∀ k fs, B ≤ k → k < n' + 8 → ρ' k ≠ .inr (7, fs)) → post (some .null) n' (zl_h κ' ρ'))
    (hgood : (if Q.2.2 = 0 ∧ Q.1 < N then zpf pl Q else Q).2.2 = 0 → ∀ κ' ρ' n' cs cd sz F, zRg κ' κ0 → κ'.1 48 7 = -1 → (∀ k, k < B → ρ' k = ρ0 k) → n0 ≤ n' → (∀ k fs, B ≤ k → k < n' + 8 → ρ' k ≠ .inr (7, fs)) → (∀ ρ2, (∀ k, B ≤ k → k < n' + 8 → ρ2 k = ρ' k) → zTS ρ2 B sz cs cd F) → 1 ≤ sz → (∃ s e : Nat → Nat, s 0 = 0 ∧ (∀ i, i < sz → PC (s i) (e i) cd cs (F i)) ∧ (∀ i, i + 1 < sz → s (i + 1) = e i + 1) ∧ e (sz - 1) = N) → post (some (.ref B)) n' (zl_h κ' ρ')) :
    zq_At l G (zq_rm D 15 887) mX8_read (zq_QF G post 15 887) 98 [(0, .ref 48), (4, .ref B)] [] n (zl_h κ ρ) cells slots := by
  have hN := hT.1
  have hno : ∀ k fs, B ≤ k → k < n + 8 → ρ k ≠ .inr (7, fs) := by
    intro k fs k1 k2 e
    by_cases e0 : k = B
    · rw [e0, hX.1] at e; cases e
    · by_cases e1 : k = B + 1
      · rw [e1, hX.2.1] at e; cases e
      · obtain ⟨i, rfl⟩ : ∃ i, k = B + 2 + i := ⟨k - (B + 2), by omega⟩
        rw [hX.2.2 i (by omega)] at e
        cases e
  by_cases hz : Q.2.2 = 0
  · obtain ⟨a1, a2, a3, a4, a5, a6⟩ := hs.2.2.resolve_right (fun h => h.1 hz)
    obtain ⟨e1, e2⟩ := hce hz
    subst e1 e2
    by_cases hQN : Q.1 < N
    · rw [if_pos ⟨hz, hQN⟩] at hbad
      have hb := hbad (fun e => zpf_bad e)
      have hlo := zT1_lo (hT.2.2.2.2 Q.1 hQN)
      have hne : ¬ κ.1 48 3 = nI 3000 := by
        rw [a3]
        intro e
        rw [e, nI_toInt (by decide)] at hlo
        omega
      refine at_aload_n dX8_read_98 rfl ?_
      refine at_get dX8_read_99 fl_X8_22 (zl_o rfl) rfl ?_
      refine at_sipush dX8_read_102 (v := nI 3000) (by decide) ?_
      refine at_icmp_eq (tgt := 112) dX8_read_105 (by decide) (fun c105 => ?_) (fun c105 => ?_)
      · exact absurd c105 hne
      · refine at_aload_n dX8_read_108 rfl ?_
        refine at_callV0 (d := D - 1) dX8_read_109 mv_X8_61 (zl_o rfl) (Nat.le_of_ble_eq_true rfl) (zq_r0 (by omega) (by omega) (by omega)) ?_
        refine zc_fail hT hR (zqk_w hq) hs (fun κ1 g1 g2 => ?_)
        rcases g2.2.2 with ⟨b1, _⟩ | ⟨b1, b2, b3⟩
        · exact (zpf_bad b1).elim
        have hb := hb κ1 ρ n (zRg_f g1 hκ) b3 hρ (by omega) hno
        refine at_aload_n dX8_read_112 rfl ?_
        refine at_get dX8_read_113 fl_X8_34 (zl_o rfl) rfl ?_
        refine at_iconst dX8_read_116 (v := -1) rfl ?_
        refine at_icmp_eq (tgt := 122) dX8_read_117 (by decide) (fun c117 => ?_) (fun c117 => ?_)
        · exact absurd (b3.symm.trans c117) (nI_ne_m1 (by have := (zgd_f hT.2.2.2.1 Q hq).1.2.1; omega))
        · refine at_null dX8_read_120 ?_
          exact at_aret (r := none) dX8_read_121 rfl (Or.inl ⟨_, rfl⟩) (by omega) (by omega) hb
          done
    · have eN : Q.1 = N := by have := hq.1; omega
      rw [if_neg (fun h => hQN h.2)] at hgood
      have hg := hgood hz
      obtain ⟨b1, b2, s, e, b3, b4, b5, b6⟩ := hcl hz
      have htok : κ.1 48 3 = nI 3000 := by rw [a3, eN]; exact hT.2.2.1
      have x1 : zl_h κ (va_up ρ (n + 8) (.inl (0, cs, .inl (va_cpy (κ.2.1 51) (fun _ => 0) 0 0 cs)))) B = .inr (10, [.ref (B + 1), .int (nI sz), .null]) := by
        rw [zl_hi _ _ (Or.inr hB), va_up_ne _ _ (by omega)]
        exact hX.1
      refine at_aload_n dX8_read_98 rfl ?_
      refine at_get dX8_read_99 fl_X8_22 (zl_o rfl) rfl ?_
      refine at_sipush dX8_read_102 (v := nI 3000) (by decide) ?_
      refine at_icmp_eq (tgt := 112) dX8_read_105 (by decide) (fun c105 => ?_) (fun c105 => ?_)
      · refine at_aload_n dX8_read_112 rfl ?_
        refine at_get dX8_read_113 fl_X8_34 (zl_o rfl) rfl ?_
        refine at_iconst dX8_read_116 (v := -1) rfl ?_
        refine at_icmp_eq (tgt := 122) dX8_read_117 (by decide) (fun c117 => ?_) (fun c117 => ?_)
        · refine at_aload dX8_read_122 rfl ?_
          refine at_aload_n dX8_read_124 rfl ?_
          refine at_get dX8_read_125 fl_X8_25 (zl_o rfl) rfl ?_
          refine at_aload_n dX8_read_128 rfl ?_
          refine at_get dX8_read_129 fl_X8_28 (zl_o rfl) rfl ?_
          rw [hs.1]
          refine at_callS2 (d := D - 1) dX8_read_132 ms_X8_64 (Nat.le_of_ble_eq_true rfl) ⟨by show D - 1 + 1 ≤ D; omega, by show 60 * (D - 1) + 59 ≤ 60 * D; omega, by show 2 + sz + 1 ≤ 15; omega, by show 15 + 6 * sz + cs ≤ 887; omega⟩ ?_
          refine zj_copyOf (by omega) (by omega) (by omega) ?_
          refine at_put dX8_read_135 (pl_X8_70 _) x1 (Nat.le_of_ble_eq_true rfl) (fun _ => rfl) (fun _ => rfl) ?_
          rw [zl_up hB]
          refine at_aload dX8_read_138 rfl ?_
          refine at_aret (r := some B) dX8_read_140 rfl (Or.inl ⟨_, rfl⟩) (by omega) (by omega) ?_
          refine hg κ _ (n + 1) cs cd sz F hκ a5 (fun k hk => ?_) (by omega) (fun k fs k1 k2 e' => ?_) (fun ρ2 h2 => zTS_b hB h12 ((h2 B (by omega) (by omega)).trans (va_up_self _ _ _)) ((h2 (B + 1) (by omega) (by omega)).trans ?_) (fun i hi => (h2 (B + 2 + i) (by omega) (by omega)).trans ?_) ⟨va_cpy (κ.2.1 51) (fun _ => 0) 0 0 cs, (h2 (n + 8) (by omega) (by omega)).trans ?_, by omega, hs.2.1, fun k hk => ?_⟩) h1 ⟨s, e, b3, b4, b5, by rw [← eN]; exact b6 h1⟩
          · rw [va_up_ne _ _ (by omega), va_up_ne _ _ (by omega)]; exact hρ k hk
          · by_cases e0 : k = B
            · rw [e0, va_up_self] at e'; cases e'
            · rw [va_up_ne _ _ e0] at e'
              by_cases e1 : k = n + 8
              · rw [e1, va_up_self] at e'; cases e'
              · rw [va_up_ne _ _ e1] at e'
                exact hno k fs k1 (by omega) e'
          · rw [va_up_ne _ _ (by omega), va_up_ne _ _ (by omega)]; exact hX.2.1
          · rw [va_up_ne _ _ (by omega), va_up_ne _ _ (by omega)]; exact hX.2.2 i hi
          · rw [va_up_ne _ _ (by omega), va_up_self]
          · rw [show va_cpy (κ.2.1 51) (fun _ => 0) 0 0 cs k = κ.2.1 51 k from (if_pos ⟨Nat.zero_le _, by rw [Nat.zero_add]; exact hk⟩).trans (by rw [Nat.sub_zero, Nat.zero_add])]
            exact a6 k hk
        · exact absurd a5 c117
      · exact absurd htok c105
  · rcases hs.2.2 with ⟨a1, _⟩ | ⟨a1, a2, a3⟩
    · exact absurd a1 hz
    rw [if_neg (fun h => hz h.1)] at hbad
    have hb := hbad hz
    have hne : ¬ κ.1 48 3 = nI 3000 := by rw [a2]; decide
    refine at_aload_n dX8_read_98 rfl ?_
    refine at_get dX8_read_99 fl_X8_22 (zl_o rfl) rfl ?_
    refine at_sipush dX8_read_102 (v := nI 3000) (by decide) ?_
    refine at_icmp_eq (tgt := 112) dX8_read_105 (by decide) (fun c105 => ?_) (fun c105 => ?_)
    · exact absurd c105 hne
    · refine at_aload_n dX8_read_108 rfl ?_
      refine at_callV0 (d := D - 1) dX8_read_109 mv_X8_61 (zl_o rfl) (Nat.le_of_ble_eq_true rfl) (zq_r0 (by omega) (by omega) (by omega)) ?_
      refine zc_fail hT hR (zqk_w hq) hs (fun κ1 g1 g2 => ?_)
      rw [show zpf pl Q = Q from if_neg hz] at g2
      rcases g2.2.2 with ⟨b1, _⟩ | ⟨b1, b2, b3⟩
      · exact absurd b1 hz
      have hb := hb κ1 ρ n (zRg_f g1 hκ) b3 hρ (by omega) hno
      refine at_aload_n dX8_read_112 rfl ?_
      refine at_get dX8_read_113 fl_X8_34 (zl_o rfl) rfl ?_
      refine at_iconst dX8_read_116 (v := -1) rfl ?_
      refine at_icmp_eq (tgt := 122) dX8_read_117 (by decide) (fun c117 => ?_) (fun c117 => ?_)
      · exact absurd (b3.symm.trans c117) (nI_ne_m1 (by have := hq.2.1; omega))
      · refine at_null dX8_read_120 ?_
        exact at_aret (r := none) dX8_read_121 rfl (Or.inl ⟨_, rfl⟩) (by omega) (by omega) hb
        done
end ZC46

