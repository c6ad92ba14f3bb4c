/-! ===== the class: clauses of laws and orders ===== -/
section ZC36
variable {l : Launch} {G : zq_G} {D n : Nat} {ρ f : Nat → zq_E} {post : Option Value → Nat → (Nat → zq_E) → Prop}
variable {N : Nat} {c v pl : Nat → Nat} {tk : Nat → Int32} {κ : zl_S} {q : zQ} {cs : Nat} {cd : Nat → Nat × Nat}
theorem zTb_set {B sz : Nat} {F : Nat → Nat → Int32} {F' : Nat → Int32} (h : zTb ρ B (sz + 1) (fun i => if i = sz then zF0 else F i)) : zTb (va_up ρ (B + 2 + sz) (zce F')) B (sz + 1) (fun i => if i = sz then F' else F i) := by
  obtain ⟨t1, t2, t3⟩ := h
  refine ⟨by rw [va_up_ne _ _ (by omega)]; exact t1, by rw [va_up_ne _ _ (by omega)]; exact t2, fun i hi => ?_⟩
  by_cases e : i = sz
  · subst e
    rw [va_up_self]
    exact congrArg zce (if_pos rfl).symm
  · rw [va_up_ne _ _ (by omega), t3 i hi]
    exact congrArg zce ((if_neg e).trans (if_neg e).symm)
/-- a clause that is read: what has come of it -/
def zCd (P : (Nat → Nat × Nat) → Nat → (Nat → Int32) → Prop) (q q' : zQ) (cs cs' : Nat) (cd cd' : Nat → Nat × Nat) (F' : Nat → Int32) : Prop :=
  q'.2.2 = 0 → q.2.2 = 0 ∧ cs' ≤ q'.1 ∧ q'.2.1 ≤ 50 ∧ cs ≤ cs' ∧ (∀ k, k < cs → cd' k = cd k) ∧ P cd' cs' F'
theorem zc_clauseL {B sz : Nat} {F : Nat → Nat → Int32} (hD : 42 ≤ D) (hT : zTm N c v pl tk) (hR : zRw κ N pl tk false) (hq : zqk N q) (hs : zPs κ tk q cs cd) (hb : q.2.2 = 0 → cs ≤ q.1 ∧ q.2.1 ≤ 50) (hB : 70 ≤ B) (hn : n + 8 = B + 2 + sz) (hX : zTb ρ B sz F) (h12 : sz < 12)
    (hp : ∀ κ' cs' cd' ρ' F', zRf κ' κ → zPs κ' tk (zpClause c v pl 8 15 false q) cs' cd' → zCd (fun cd' cs' F' => ∃ C : zLC, zSpC c v C q.1 (zpClause c v pl 8 15 false q).1 ∧ zLcl cd' cs' F' C) q (zpClause c v pl 8 15 false q) cs cs' cd cd' F' → (∀ k, k < B → ρ' k = ρ k) → zTb ρ' B (sz + 1) (fun i => if i = sz then F' else F i) → post none (n + 1) (zl_h κ' ρ')) : zq_Runs l G D 1 6 yX8_readClause [.ref 48, .ref B] n (zl_h κ ρ) post := by
  have x1 : zl_h κ ρ B = .inr (10, [.ref (B + 1), .int (nI sz), .null]) := (zl_hi _ _ (Or.inr hB)).trans hX.1
  have hq1 : zqk N (zqRu c v pl q) := by
    have hgS := zgd_S (v := v) (pl := pl) (fw := 8) (lw := 15) (o := false) hT.1 hT.2.1 hT.2.2.2.1 (by decide) 8
    unfold zqRu
    split
    · next h => exact (hgS _ (zqk_nx hq (zpt_c hT (zqk_w hq) (by decide) h).2.1)).1
    · split
      · next h => exact (hgS _ (zqk_nx hq (zpt_c hT (zqk_w hq) (by decide) h).2.1)).1
      · exact (zgd_mu (k := 3) hT.1 hT.2.1 hT.2.2.2.1 (by decide) q hq).1
  refine zq_enter (cc := cX8_readClause) (nL := 3) (ret := none) cw_X8_readClause (by decide) rfl (Nat.le_of_ble_eq_true rfl) ?_
  refine at_aload_n dX8_readClause_0 rfl ?_
  refine at_get dX8_readClause_1 fl_X8_97 x1 rfl ?_
  refine at_bipush dX8_readClause_4 (v := nI 12) (by decide) ?_
  refine at_ltN (tgt := 14) dX8_readClause_6 (by decide) (by omega) (by omega) (fun c6 => ?_) (fun c6 => ?_)
  · refine at_aload_n dX8_readClause_14 rfl ?_
    refine at_callV0 (d := D - 1) dX8_readClause_15 mv_X8_100 x1 (Nat.le_of_ble_eq_true rfl) ⟨by show D - 1 + 1 ≤ D; omega, by show 60 * (D - 1) + 59 ≤ 60 * D; omega, by show 0 + 1 ≤ 1; omega, by show 0 + 6 ≤ 6; omega⟩ ?_
    refine zc_addClause (by omega) hB hn hX h12 (fun ρ1 u1 u2 => ?_)
    have hC1 : zCl ρ1 (B + 2 + sz) zF0 := ⟨by omega, by rw [u2.2.2 sz (by omega)]; exact congrArg zce (if_pos rfl)⟩
    refine at_astore_n dX8_readClause_18 rfl (by decide) ?_
    refine at_aload_n dX8_readClause_19 rfl ?_
    refine at_get dX8_readClause_20 fl_X8_37 (zl_o rfl) rfl ?_
    rw [hR.2]
    refine at_if_eqB (tgt := 34) dX8_readClause_23 (by decide) (fun c23 => ?_) (fun c23 => ?_)
    · refine at_aload_n dX8_readClause_34 rfl ?_
      refine at_aload_n dX8_readClause_35 rfl ?_
      refine at_callV1 (d := D - 1) dX8_readClause_36 mv_X8_108 (zl_o rfl) (Nat.le_of_ble_eq_true rfl) (zq_r0 (by omega) (by omega) (by omega)) ?_
      refine zc_readRule (by omega) hT hR hq hs hb hC1 (fun κ2 cs2 cd2 F2 g1 g2 g3 g4 => ?_)
      refine at_lv [0, 1, 2] (zc_if_39 (o := false) (by omega) hT (zRw_f g1 hR) hq1 g2 (fun h0 => ⟨(g3 h0).2.1, (g3 h0).2.2.1⟩) (zCl_s hC1) (fun κ3 cs3 cd3 F3 j1 j2 j3 j4 => ?_))
      rw [zce_up]
      refine hp κ3 cs3 cd3 _ F3 (zRf_t j1 g1) j2 (fun h0 => ?_) (fun k hk => by rw [va_up_ne _ _ (by omega), u1 k hk]) (zTb_set u2)
      obtain ⟨r1, r2, r3, r4, r5, r6⟩ := j3 h0
      obtain ⟨s1, s2, s3, s4, s5, s6⟩ := g3 r1
      refine ⟨s1, r2, r3, by omega, fun k hk => by rw [r5 k (by omega), s5 k hk], ?_⟩
      have f0 := j4 0 (by decide)
      have f2 := j4 2 (by decide)
      have tst : ∃ e : zX, ((F3 5 = -1 ∧ e = zx_num 1) ∨ zHas false cd3 cs3 (F3 5) e) ∧ ((c (zqRu c v pl q).1 ≠ 4 ∧ e = zx_num 1 ∧ (zpClause c v pl 8 15 false q).1 = (zqRu c v pl q).1) ∨ (c (zqRu c v pl q).1 = 4 ∧ zSpT c v false 9 e ((zqRu c v pl q).1 + 1) (zpClause c v pl 8 15 false q).1)) := (by
        rcases r6 with ⟨a1, a2, a3⟩ | ⟨a1, e, a2, a3⟩
        · exact ⟨zx_num 1, Or.inl ⟨by rw [a2, g4]; rfl, rfl⟩, Or.inl ⟨a1, rfl, a3⟩⟩
        · exact ⟨e, Or.inr a3, Or.inr ⟨a1, a2⟩⟩)
      obtain ⟨e, e1, e2⟩ := tst
      rcases s6 with ⟨b1, b2, b3⟩ | ⟨b1, b2, e', b3, b4⟩
      · exact ⟨(3, zx_num 1, e), ⟨(zqRu c v pl q).1, Or.inl ⟨b1, rfl, rfl, b3⟩, e2⟩, ⟨by show 1 ≤ 3; omega, by show 3 ≤ 3; omega⟩, by rw [f0, b2], fun _ => rfl, fun h => absurd rfl h, e1⟩
      · exact ⟨(c q.1, e', e), ⟨(zqRu c v pl q).1, Or.inr ⟨b1, rfl, b3⟩, e2⟩, ⟨by show 1 ≤ c q.1; omega, by show c q.1 ≤ 3; omega⟩, by rw [f0, b2], fun h => (by have h : c q.1 = 3 := h; omega), fun _ => by rw [f2]; exact zHas_ext b4 r4 r5, e1⟩
    · exact absurd c23 (by decide)
  · omega
/-- an order's clause in its numbers -/
def zOcl (cd : Nat → Nat × Nat) (N : Nat) (F : Nat → Int32) (C : zOC) : Prop :=
  C.1 ≤ 3 ∧ F 0 = nI C.1 ∧ (1 ≤ C.2.2.1 ∧ C.2.2.1 ≤ 20 ∧ F 1 = nI C.2.2.1) ∧ (C.1 ≠ 3 → zHas true cd N (F 2) C.2.1.1) ∧ (C.1 = 0 → zHas true cd N (F 3) C.2.1.2.1 ∧ zHas true cd N (F 4) C.2.1.2.2) ∧ ((F 5 = -1 ∧ C.2.2.2 = zx_num 1) ∨ zHas true cd N (F 5) C.2.2.2) ∧ (C.1 ≠ 0 → F 3 = -1 ∧ F 4 = -1 ∧ C.2.1.2 = (zx_num 0, zx_num 0)) ∧ (C.1 = 3 → F 2 = -1 ∧ C.2.1.1 = zx_num 0)
theorem zc_clauseO {B sz : Nat} {F : Nat → Nat → Int32} (hD : 42 ≤ D) (hT : zTm N c v pl tk) (hR : zRw κ N pl tk true) (hq : zqk N q) (hs : zPs κ tk q cs cd) (hb : q.2.2 = 0 → cs ≤ q.1 ∧ q.2.1 ≤ 50) (hB : 70 ≤ B) (hn : n + 8 = B + 2 + sz) (hX : zTb ρ B sz F) (h12 : sz < 12)
    (hp : ∀ κ' cs' cd' ρ' F', zRf κ' κ → zPs κ' tk (zpOrder c v pl 15 21 true q) cs' cd' → zCd (fun cd' cs' F' => ∃ C : zOC, zSpO c v C q.1 (zpOrder c v pl 15 21 true q).1 ∧ zOcl cd' cs' F' C) q (zpOrder c v pl 15 21 true q) cs cs' cd cd' F' → (∀ k, k < B → ρ' k = ρ k) → zTb ρ' B (sz + 1) (fun i => if i = sz then F' else F i) → post none (n + 1) (zl_h κ' ρ')) : zq_Runs l G D 1 6 yX8_readClause [.ref 48, .ref B] n (zl_h κ ρ) post := by
  have x1 : zl_h κ ρ B = .inr (10, [.ref (B + 1), .int (nI sz), .null]) := (zl_hi _ _ (Or.inr hB)).trans hX.1
  have hq1 : zqk N (zqAc c v pl q) := by
    have hgS := zgd_S (v := v) (pl := pl) (fw := 15) (lw := 21) (o := true) hT.1 hT.2.1 hT.2.2.2.1 (by decide) 8
    have hgM := fun k (hk : k ≠ 0) => zgd_mu (k := k) hT.1 hT.2.1 hT.2.2.2.1 hk
    unfold zqAc
    split
    · next h =>
      have := (zpt_c hT (zqk_w hq) (by decide) h).2.1
      exact (hgS _ (hgM 23 (by decide) _ (hgS _ (hgM 11 (by decide) _ (hgS _ (zqk_nx hq this)).1).1).1).1).1
    · split
      · next h => exact (hgS _ (zqk_nx hq (zpt_c hT (zqk_w hq) (by decide) h).2.1)).1
      · split
        · next h => exact (hgS _ (zqk_nx hq (zpt_c hT (zqk_w hq) (by decide) h).2.1)).1
        · exact (hgM 26 (by decide) q hq).1
  have hq2 : zqk N (zpTimes c v pl (zqAc c v pl q)) := (zgd_times hT.1 hT.2.1 hT.2.2.2.1 _ hq1).1
  have ho : zpOrder c v pl 15 21 true q = zpIf c v pl (zfw true) (zlwd true) true (zpTimes c v pl (zqAc c v pl q)) := rfl
  rw [ho] at hp
  generalize hqa : zqAc c v pl q = qa at *
  generalize hqt : zpTimes c v pl qa = qt at *
  refine zq_enter (cc := cX8_readClause) (nL := 3) (ret := none) cw_X8_readClause (by decide) rfl (Nat.le_of_ble_eq_true rfl) ?_
  refine at_aload_n dX8_readClause_0 rfl ?_
  refine at_get dX8_readClause_1 fl_X8_97 x1 rfl ?_
  refine at_bipush dX8_readClause_4 (v := nI 12) (by decide) ?_
  refine at_ltN (tgt := 14) dX8_readClause_6 (by decide) (by omega) (by omega) (fun c6 => ?_) (fun c6 => ?_)
  · refine at_aload_n dX8_readClause_14 rfl ?_
    refine at_callV0 (d := D - 1) dX8_readClause_15 mv_X8_100 x1 (Nat.le_of_ble_eq_true rfl) ⟨by show D - 1 + 1 ≤ D; omega, by show 60 * (D - 1) + 59 ≤ 60 * D; omega, by show 0 + 1 ≤ 1; omega, by show 0 + 6 ≤ 6; omega⟩ ?_
    refine zc_addClause (by omega) hB hn hX h12 (fun ρ1 u1 u2 => ?_)
    have hC1 : zCl ρ1 (B + 2 + sz) zF0 := ⟨by omega, by rw [u2.2.2 sz (by omega)]; exact congrArg zce (if_pos rfl)⟩
    refine at_astore_n dX8_readClause_18 rfl (by decide) ?_
    refine at_aload_n dX8_readClause_19 rfl ?_
    refine at_get dX8_readClause_20 fl_X8_37 (zl_o rfl) rfl ?_
    rw [hR.2]
    refine at_if_eqB (tgt := 34) dX8_readClause_23 (by decide) (fun c23 => ?_) (fun c23 => ?_)
    · exact absurd c23 (by decide)
    · refine at_aload_n dX8_readClause_26 rfl ?_
      refine at_aload_n dX8_readClause_27 rfl ?_
      refine at_callV1 (d := D - 1) dX8_readClause_28 mv_X8_104 (zl_o rfl) (Nat.le_of_ble_eq_true rfl) (zq_r0 (by omega) (by omega) (by omega)) ?_
      refine zc_readOrder (by omega) hT hR hq hs hb hC1 (fun κ2 cs2 cd2 F2 g1 g2 g3 g4 => ?_)
      rw [hqa, hqt] at g2 g3
      obtain ⟨F1, k1, k2, k3, k4⟩ := g3
      refine at_goto (tgt := 39) dX8_readClause_31 (by decide) ?_
      refine at_lv [0, 1, 2] (zc_if_39 (o := true) (by omega) hT (zRw_f g1 hR) hq2 g2 (fun h0 => (by
        obtain ⟨b1, b2, b3, b4⟩ := k2 h0
        obtain ⟨a1, a2, a3, a4⟩ := k1 b1
        exact ⟨by omega, by omega⟩)) (zCl_s hC1) (fun κ3 cs3 cd3 F3 j1 j2 j3 j4 => ?_))
      rw [zce_up]
      refine hp κ3 cs3 cd3 _ F3 (zRf_t j1 g1) j2 (fun h0 => ?_) (fun k hk => by rw [va_up_ne _ _ (by omega), u1 k hk]) (zTb_set u2)
      obtain ⟨r1, r2, r3, r4, r5, r6⟩ := j3 h0
      obtain ⟨b1, b2, b3, b4⟩ := k2 r1
      obtain ⟨s1, s2, s3, s4, s5, s6⟩ := k1 b1
      refine ⟨s1, r2, r3, by omega, fun k hk => by rw [r5 k (by omega), s5 k hk], ?_⟩
      generalize hqf : zpIf c v pl (zfw true) (zlwd true) true qt = qf at *
      have f0 : F3 0 = F1 0 := (j4 0 (by decide)).trans (k3 0 (by decide))
      have f1 : F3 1 = F2 1 := j4 1 (by decide)
      have f2 : F3 2 = F1 2 := (j4 2 (by decide)).trans (k3 2 (by decide))
      have f3 : F3 3 = F1 3 := (j4 3 (by decide)).trans (k3 3 (by decide))
      have f4 : F3 4 = F1 4 := (j4 4 (by decide)).trans (k3 4 (by decide))
      have tst : ∃ e : zX, ((F3 5 = -1 ∧ e = zx_num 1) ∨ zHas true cd3 cs3 (F3 5) e) ∧ ((c qt.1 ≠ 4 ∧ e = zx_num 1 ∧ qf.1 = qt.1) ∨ (c qt.1 = 4 ∧ zSpT c v true 9 e (qt.1 + 1) qf.1)) := (by
        rcases r6 with ⟨a1, a2, a3⟩ | ⟨a1, e, a2, a3⟩
        · exact ⟨zx_num 1, Or.inl ⟨by rw [a2, g4]; rfl, rfl⟩, Or.inl ⟨a1, rfl, a3⟩⟩
        · exact ⟨e, Or.inr a3, Or.inr ⟨a1, a2⟩⟩)
      obtain ⟨e, e1, e2⟩ := tst
      have tms : ∃ t, (1 ≤ t ∧ t ≤ 20 ∧ F3 1 = nI t) ∧ ((c qa.1 ≠ 27 ∧ t = 1 ∧ qt.1 = qa.1) ∨ (c qa.1 = 27 ∧ c (qa.1 + 1) = 50 ∧ 1 ≤ v (qa.1 + 1) ∧ v (qa.1 + 1) ≤ 20 ∧ t = v (qa.1 + 1) ∧ qt.1 = qa.1 + 2)) := (by
        rcases b4 with ⟨a1, a2, a3⟩ | ⟨a1, a2, a3, a4, a5, a6⟩
        · exact ⟨1, ⟨by decide, by decide, by rw [f1, a2, k4]; rfl⟩, Or.inl ⟨a1, rfl, a3⟩⟩
        · exact ⟨v (qa.1 + 1), ⟨a3, a4, by rw [f1, a5]⟩, Or.inr ⟨a1, a2, a3, a4, rfl, a6⟩⟩)
      obtain ⟨t, t1, t2⟩ := tms
      rcases s6 with ⟨d1, d2, x, y, h1, h2, h3, d3, d4, d5, d6, d7, d8, d9, d10⟩ | ⟨d1, ⟨h1, d2, d3⟩, d4, d5⟩ | ⟨d1, d2, d3, d4, d5, d6⟩
      · exact ⟨(0, (h1, h2, h3), t, e), ⟨qa.1, qt.1, Or.inl ⟨d1, rfl, x, y, d3, d4, d5, d6, d7⟩, t2, e2⟩, Nat.zero_le _, by rw [f0, d2], t1, fun _ => by rw [f2]; exact zHas_ext d8 r4 r5, fun _ => ⟨by rw [f3]; exact zHas_ext d9 r4 r5, by rw [f4]; exact zHas_ext d10 r4 r5⟩, e1, fun h => absurd rfl h, fun h => (by have h : (0 : Nat) = 3 := h; omega)⟩
      · rcases d1 with ⟨d0, d1⟩ | ⟨d0, d1⟩
        · exact ⟨(1, (h1, zx_num 0, zx_num 0), t, e), ⟨qa.1, qt.1, Or.inr (Or.inl ⟨Or.inl rfl, d0, d2, rfl⟩), t2, e2⟩, by show 1 ≤ 3; omega, by rw [f0, d1], t1, fun _ => by rw [f2]; exact zHas_ext d3 r4 r5, fun h => (by have h : (1 : Nat) = 0 := h; omega), e1, fun _ => ⟨by rw [f3, d4]; rfl, by rw [f4, d5]; rfl, rfl⟩, fun h => (by have h : (1 : Nat) = 3 := h; omega)⟩
        · exact ⟨(2, (h1, zx_num 0, zx_num 0), t, e), ⟨qa.1, qt.1, Or.inr (Or.inl ⟨Or.inr rfl, d0, d2, rfl⟩), t2, e2⟩, by show 2 ≤ 3; omega, by rw [f0, d1], t1, fun _ => by rw [f2]; exact zHas_ext d3 r4 r5, fun h => (by have h : (2 : Nat) = 0 := h; omega), e1, fun _ => ⟨by rw [f3, d4]; rfl, by rw [f4, d5]; rfl, rfl⟩, fun h => (by have h : (2 : Nat) = 3 := h; omega)⟩
      · exact ⟨(3, (zx_num 0, zx_num 0, zx_num 0), t, e), ⟨qa.1, qt.1, Or.inr (Or.inr ⟨d1, rfl, d3, rfl⟩), t2, e2⟩, by show 3 ≤ 3; omega, by rw [f0, d2], t1, fun h => absurd rfl h, fun h => (by have h : (3 : Nat) = 0 := h; omega), e1, fun _ => ⟨by rw [f3, d5]; rfl, by rw [f4, d6]; rfl, rfl⟩, fun _ => ⟨by rw [f2, d4]; rfl, rfl⟩⟩
  · omega
end ZC36

