/-! ===== the class: the reader reads tests at all depths, whole sums ===== -/
theorem zHas_ext {o : Bool} {cd cd' : Nat → Nat × Nat} {N N' : Nat} {s : Int32} {e : zX} (h : zHas o cd N s e) (hN : N ≤ N') (hc : ∀ k, k < N → cd' k = cd k) : zHas o cd' N' s e := by
  obtain ⟨i, j, hh, x, h1, h2, h3, h4, h5⟩ := h
  exact ⟨i, j, hh, x, h1, zCC_ext h2 (Nat.le_refl _) (fun k _ k2 => hc k (by omega)), h3, by omega, by rw [hc j h4]; exact h5⟩
section ZC28
variable {l : Launch} {G : zq_G} {D n : Nat} {ρ f : Nat → zq_E}
variable {N : Nat} {c v pl : Nat → Nat} {tk : Nat → Int32} {o : Bool}
theorem zc_readTest (hT : zTm N c v pl tk) : ∀ (e d D : Nat), d + e = 8 → 3 * e + 10 ≤ D → zHR l G n ρ N pl tk o D yX8_readTest d (zpT c v pl (zfw o) (zlwd o) o e) (zSpT c v o (e + 1)) (2 * (e + 1) + 2) := by
  intro e
  have hgS := zgd_S (v := v) (pl := pl) (fw := zfw o) (lw := zlwd o) (o := o) hT.1 hT.2.1 hT.2.2.2.1 (zfw_pos o)
  have hgP := zgd_Pl (v := v) (pl := pl) (fw := zfw o) (lw := zlwd o) (o := o) hT.1 hT.2.1 hT.2.2.2.1 (zfw_pos o)
  induction e with
  | zero =>
    intro d D hd hD
    rw [zpT_eq]
    have h0 := zc_readComparison (l := l) (G := G) (n := n) (ρ := ρ) (o := o) (D := D - 1 - 1 - 1) (d := d) (by omega) hT (hgS 0) (zc_readSum hT 0 d _ hd (by omega))
    have h1 := zc_readPlain (l := l) (G := G) (n := n) (ρ := ρ) (o := o) (c := c) (v := v) (D := D - 1 - 1) (d := d) (by omega) (by omega) hT (by rw [show 8 - d = 0 by omega, show 9 - d = 0 + 1 by omega]; exact h0) (fun h => by omega)
    rw [show 8 - d = 0 by omega, show 9 - d = 0 + 1 by omega] at h1
    exact zc_readTest0 (by omega) hT (zgd_both hT.1 hT.2.1 (hgP 0)) (zc_readBoth (by omega) hT (hgP 0) h1)
  | succ e ih =>
    intro d D hd hD
    rw [zpT_eq]
    have h0 := zc_readComparison (l := l) (G := G) (n := n) (ρ := ρ) (o := o) (D := D - 1 - 1 - 1) (d := d) (by omega) hT (hgS (e + 1)) (zc_readSum hT (e + 1) d _ hd (by omega))
    have h1 := zc_readPlain (l := l) (G := G) (n := n) (ρ := ρ) (o := o) (c := c) (v := v) (D := D - 1 - 1) (d := d) (by omega) (by omega) hT (by rw [show 8 - d = e + 1 by omega, show 9 - d = e + 1 + 1 by omega]; exact h0) (fun _ => by
      rw [show 7 - d = e by omega, show 8 - d = e + 1 by omega]
      exact ih (d + 1) _ (by omega) (by omega))
    rw [show 8 - d = e + 1 by omega, show 9 - d = e + 1 + 1 by omega] at h1
    exact zc_readTest0 (by omega) hT (zgd_both hT.1 hT.2.1 (hgP (e + 1))) (zc_readBoth (by omega) hT (hgP (e + 1)) h1)
/-- what a whole sum, a whole test has left: its code and a stop -/
def zWh (o : Bool) (Sp : zX → Nat → Nat → Prop) (q q' : zQ) (cs cs' : Nat) (cd cd' : Nat → Nat × Nat) : Prop :=
  q'.2.2 = 0 → q.2.2 = 0 ∧ cs' + q.1 ≤ cs + 1 + q'.1 ∧ q'.2.1 ≤ 50 ∧ cs ≤ cs' ∧ (∀ k, k < cs → cd' k = cd k) ∧ ∃ e, Sp e q.1 q'.1 ∧ zHas o cd' cs' (nI cs) e
theorem zWh_r {Sp : zX → Nat → Nat → Prop} {h : Nat} {q q' : zQ} {cs cs1 : Nat} {cd cd1 : Nat → Nat × Nat} (hr : zRes o Sp h q q' cs cs1 cd cd1) (hh : h ≤ 32) (hlt : q'.2.2 = 0 → cs1 < 800) : zWh o Sp q q' cs (if cs1 < 800 then cs1 + 1 else cs1) cd (zcu cd1 cs1 (0, 0)) := by
  intro h0
  obtain ⟨r1, r2, r3, r4, e, r5, r6⟩ := hr h0
  have i1 := r6.1
  rw [if_pos (hlt h0)]
  exact ⟨r1, by omega, r3, by omega, fun k hk => by rw [zcu_o (by omega), r4 k hk], e, r5, cs, cs1, h, 0, rfl, zCC_ext r6 (Nat.le_refl _) (fun k k1 k2 => zcu_o (by omega)), hh, by omega, zcu_s _ _ _⟩
theorem zc_wholeSum {κ : zl_S} {q : zQ} {cs : Nat} {cd : Nat → Nat × Nat} {post : Option Value → Nat → (Nat → zq_E) → Prop} (hD : 31 ≤ D) (hT : zTm N c v pl tk) (hR : zRw κ N pl tk o) (hq : zqk N q) (hs : zPs κ tk q cs cd) (hb : q.2.2 = 0 → cs + 1 ≤ q.1 ∧ q.2.1 ≤ 50)
    (hp : ∀ κ' cs' cd', zRf κ' κ → zPs κ' tk (zpS c v pl (zfw o) (zlwd o) o 8 q) cs' cd' → zWh o (zSpS c v o 9) q (zpS c v pl (zfw o) (zlwd o) o 8 q) cs cs' cd cd' → post (some (.int (nI cs))) n (zl_h κ' ρ)) : zq_Runs l G D 0 0 yX8_wholeSum [.ref 48] n (zl_h κ ρ) post := by
  have s1 := hs.1
  have hg := zgd_S (v := v) (pl := pl) (fw := zfw o) (lw := zlwd o) (o := o) hT.1 hT.2.1 hT.2.2.2.1 (zfw_pos o) 8 q hq
  have hN := hT.1
  refine zq_enter (cc := cX8_wholeSum) (nL := 2) (ret := (some .int)) cw_X8_wholeSum (by decide) rfl (Nat.le_of_ble_eq_true rfl) ?_
  refine at_aload_n dX8_wholeSum_0 rfl ?_
  refine at_get dX8_wholeSum_1 fl_X8_28 (zl_o rfl) rfl ?_
  rw [s1]
  refine at_istore_n dX8_wholeSum_4 rfl (by decide) ?_
  refine at_aload_n dX8_wholeSum_5 rfl ?_
  refine at_iconst dX8_wholeSum_6 (v := nI 0) (by decide) ?_
  refine at_callV1 (d := D - 1) dX8_wholeSum_7 mv_X8_150 (zl_o rfl) (Nat.le_of_ble_eq_true rfl) (zq_r0 (by omega) (by omega) (by omega)) ?_
  refine zc_readSum hT 8 0 _ (by decide) (by omega) κ q cs cd _ hR hq hs (fun h0 => ⟨by have := (hb h0).1; omega, (hb h0).2⟩) (fun κ1 cs1 cd1 g1 g2 g3 => ?_)
  have hlt : (zpS c v pl (zfw o) (zlwd o) o 8 q).2.2 = 0 → cs1 < 800 := (fun h0 => by
    have e1 := (g3 h0).2.1
    have e2 := hb (g3 h0).1
    have := hg.1.1
    omega)
  refine at_aload_n dX8_wholeSum_10 rfl ?_
  refine at_iconst dX8_wholeSum_11 (v := nI 0) (by decide) ?_
  refine at_iconst dX8_wholeSum_12 (v := nI 0) (by decide) ?_
  refine at_callV2 (d := D - 1) dX8_wholeSum_13 mv_X8_122 (zl_o rfl) (Nat.le_of_ble_eq_true rfl) (zq_r0 (by omega) (by omega) (by omega)) ?_
  refine zc_emit (op := 0) (ar := 0) (by decide) (by decide) g2 hlt (fun κ2 j1 j2 => ?_)
  have hp := hp κ2 _ _ (zRf_t j1 g1) j2 (zWh_r g3 (by decide) hlt)
  refine at_iload_n dX8_wholeSum_16 rfl ?_
  refine at_iret dX8_wholeSum_17 rfl (by omega) (by omega) ?_
  exact hp
end ZC28

