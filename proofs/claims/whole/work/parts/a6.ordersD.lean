/-! ===== calls on both sides: orders, the call ===== -/
section ZK31
variable {l : Launch} {G : zq_G} {D n n' b : Nat} {κ κ' κ3 κ6 κ7 : zl_S} {σ τ : zm_S} {ρ ρ' : Nat → zq_E} {K K' : Nat → Int32} {m hn t z : Nat} {Ls : Nat → List zLC} {Λ Λ' : List Nat} {post : Option Value → Nat → (Nat → zq_E) → Prop} {S : zRS} {Lo : Option (List zLC)} {i2 i3 : Nat → Int32} {A2 A3 : Nat → Nat → Int32} {T2 T3 : Nat → Option Nat} {g : Nat → Int32}
/-- what is laid aside before orders are run -/
def zB6 (κ6 κ3 : zl_S) (i2 : Nat → Int32) (A2 : Nat → Nat → Int32) (T2 : Nat → Option Nat) : Prop :=
  (∀ o, o ≠ 21 → o ≠ 45 → κ6.1 o = κ3.1 o) ∧ (∀ a, ¬ (21 < a ∧ a < 31) → a ≠ 46 → a ≠ 68 → κ6.2.1 a = κ3.2.1 a) ∧ (∀ a, a ≠ 31 → κ6.2.2 a = κ3.2.2 a) ∧
  κ6.1 21 = i2 ∧ (∀ c, 1 ≤ c → c ≤ 9 → κ6.2.1 (21 + c) = A2 c) ∧ κ6.2.2 31 = T2 ∧ κ6.1 45 0 = κ3.1 43 0 ∧ (∀ j, j < 16 → κ6.2.1 46 j = κ3.2.1 44 j) ∧ κ6.2.1 68 1 = nI 0 ∧ κ6.2.1 68 2 = -1
theorem zB6_of (hg : ∀ j, j < 16 → g j = (zcpQ κ3 21 i2 A2 T2).2.1 44 j) : zB6 (zl_sa (zl_sa (zl_sA (zl_si (zcpQ κ3 21 i2 A2 T2) 45 0 ((zcpQ κ3 21 i2 A2 T2).1 43 0)) 46 g) 68 1 (nI 0)) 68 2 (-1)) κ3 i2 A2 T2 := by
  refine ⟨fun o h1 h2 => ?_, fun a h1 h2 h3 => ?_, fun a h1 => zcpQ_to κ3 21 i2 A2 T2 h1, ?_, fun c c1 c9 => ?_, zcpQ_t κ3 21 i2 A2 T2, ?_, fun j hj => ?_, ?_, ?_⟩
  · exact (zsi2_o _ h2 _ _).trans (zcpQ_io κ3 21 i2 A2 T2 h1)
  · rw [zla_o _ h3, zla_o _ h3, zlA_o _ h2]
    exact zcpQ_ro κ3 21 i2 A2 T2 (by omega)
  · exact (zsi2_o (zcpQ κ3 21 i2 A2 T2) (show 21 ≠ 45 by decide) 0 ((zcpQ κ3 21 i2 A2 T2).1 43 0)).trans (zcpQ_i κ3 21 i2 A2 T2)
  · rw [zla_o _ (by omega), zla_o _ (by omega), zlA_o _ (by omega)]
    exact zcpQ_r κ3 21 i2 A2 T2 c1 c9
  · exact (zsi2_s (zcpQ κ3 21 i2 A2 T2) 45 0 _).trans (congrFun (zcpQ_io κ3 21 i2 A2 T2 (show 43 ≠ 21 by decide)) 0)
  · rw [zla_o _ (by decide), zla_o _ (by decide), zlA_s, hg j hj]
    exact congrFun (zcpQ_ro κ3 21 i2 A2 T2 (by omega)) j
  · rfl
  · rfl
theorem zlref_8 (κ : zl_S) (v : Int32) (q : Nat) : (zlref (zl_si κ 8 16 v) q).1 8 = fun j => if j = 18 then -(nI q) else if j = 16 then v else κ.1 8 j := by
  funext j
  show (zl_si (zl_si κ 8 16 v) 8 18 (-(nI q))).1 8 j = _
  by_cases e : j = 18
  · rw [e, zsi2_s, if_pos rfl]
  · rw [zsi2_k _ _ e, if_neg e]
    by_cases e2 : j = 16
    · rw [e2, zsi2_s, if_pos rfl]
    · rw [zsi2_k _ _ e2, if_neg e2]
theorem zlref_r (v : Int32) (q : Nat) {a : Nat} (h : κ.2.1 a = κ'.2.1 a) (h69 : κ.2.1 69 = κ'.2.1 69) : (zlref (zl_si κ 8 16 v) q).2.1 a = (zlref (zl_si κ' 8 16 v) q).2.1 a := by
  unfold zlref
  by_cases e : a = 69
  · rw [e]
    show va_up (zl_si κ 8 16 v).2.1 69 (va_up ((zl_si κ 8 16 v).2.1 69) (zslot q) ((zl_si κ 8 16 v).2.1 69 (zslot q) + nI 1)) 69 = va_up (zl_si κ' 8 16 v).2.1 69 (va_up ((zl_si κ' 8 16 v).2.1 69) (zslot q) ((zl_si κ' 8 16 v).2.1 69 (zslot q) + nI 1)) 69
    rw [va_up_self, va_up_self, show (zl_si κ 8 16 v).2.1 69 = (zl_si κ' 8 16 v).2.1 69 from h69]
  · rw [zla_o _ e, zla_o _ e]
    exact h
/-- orders that can't be: all is as it was -/
theorem zIV_orn {i : Nat} {T : Nat → Int32} {g' : Nat → Int32} (hN : (zTok T z).length ≤ 400) (h : zIV n κ3 (zm_si (zm_si (zm_si σ 14 0) 15 (-1)) 45 (-1)) ρ K m hn t 0 Ls Λ) (hE : zUE i2 (κ3.1 9) A2 (fun c => κ3.2.1 (9 + c)) T2 (κ3.2.2 19)) (h6 : zB6 κ6 κ3 i2 A2 T2) (h7 : zOf κ7 κ6) (hE3 : zUE i3 (κ7.1 21) A3 (fun c => κ7.2.1 (21 + c)) T3 (κ7.2.2 31)) (hg : ∀ j, j < 16 → g' j = (zcpQ κ7 9 i3 A3 T3).2.1 46 j)
    (o1 : zOr τ σ) (o2 : zMS τ m Lo (zKL K T z) Λ) (o3 : τ.1 0 = -(nI 3)) (o4 : τ.1 14 = 0) (o5 : τ.1 15 = -1) (o6 : τ.1 45 = nI i) (o7 : τ.2.1 71 = upd (σ.2.1 71) 3 (σ.2.1 71 3 + nI 1)) : zIV n (zlref (zl_si (zl_sA (zl_si (zcpQ κ7 9 i3 A3 T3) 43 0 ((zcpQ κ7 9 i3 A3 T3).1 45 0)) 44 g') 8 16 (nI i)) 3) τ ρ (zKL K T z) m hn t 0 Ls Λ := by
  obtain ⟨b1, b2, b3, b4, b5, b6, b7, b8, -, -⟩ := h6
  have hm7 := h.2.1.1.2.1
  have hn8 := h.2.1.2.2.2.2.2.2.2.1.2.1
  have ht6 := h.2.1.2.2.2.2.2.2.2.2.2.1
  have lo : ∀ j, j < 83 → zKL K T z j = K j := fun j hj => zKL_lo hN hj
  have c21 : κ7.1 21 = i2 := (h7.1 21 (by decide) (by decide)).trans b4
  have c45 : κ7.1 45 0 = nI Λ.length := by rw [h7.1 45 (by decide) (by decide), b7]; exact h.2.2.2.1.2.2.2.2.1
  have c31 : κ7.2.2 31 = T2 := by rw [h7.2.2]; exact b6
  have cA : ∀ c, 1 ≤ c → c ≤ 9 → κ7.2.1 (21 + c) = A2 c := fun c c1 c9 => (h7.2.1 _ (by omega) (by omega) (by omega) (by omega) (by omega)).trans (b5 c c1 c9)
  have q1 : ∀ o, o = 8 ∨ o = 32 → κ7.1 o = κ3.1 o := fun o ho => (h7.1 o (by omega) (by omega)).trans (b1 o (by omega) (by omega))
  have q2 : ∀ a, a = 33 ∨ a = 35 ∨ a = 47 ∨ a = 69 ∨ a = 57 → κ7.2.1 a = κ3.2.1 a := fun a ha => (h7.2.1 a (by omega) (by omega) (by omega) (by omega) (by omega)).trans (b2 a (by omega) (by omega) (by omega))
  generalize hκ8 : zcpQ κ7 9 i3 A3 T3 = κ8 at *
  have p1 : ∀ o, o ≠ 9 → κ8.1 o = κ7.1 o := fun o ho => by rw [← hκ8]; exact zcpQ_io κ7 9 i3 A3 T3 ho
  have p2 : ∀ a, ¬ (9 < a ∧ a < 19) → κ8.2.1 a = κ7.2.1 a := fun a ha => by rw [← hκ8]; exact zcpQ_ro κ7 9 i3 A3 T3 (by omega)
  have p3 : ∀ a, a ≠ 19 → κ8.2.2 a = κ7.2.2 a := fun a ha => by rw [← hκ8]; exact zcpQ_to κ7 9 i3 A3 T3 ha
  have p4 : κ8.1 9 = i3 := by rw [← hκ8]; exact zcpQ_i κ7 9 i3 A3 T3
  have p5 : ∀ c, 1 ≤ c → c ≤ 9 → κ8.2.1 (9 + c) = A3 c := fun c c1 c9 => by rw [← hκ8]; exact zcpQ_r κ7 9 i3 A3 T3 c1 c9
  have p6 : κ8.2.2 19 = T3 := by rw [← hκ8]; exact zcpQ_t κ7 9 i3 A3 T3
  generalize hκ9 : zl_sA (zl_si κ8 43 0 (κ8.1 45 0)) 44 g' = κ9
  have r1 : ∀ o, o ≠ 43 → κ9.1 o = κ8.1 o := fun o ho => by rw [← hκ9]; exact zsi2_o _ ho _ _
  have r2 : ∀ a, a ≠ 44 → κ9.2.1 a = κ8.2.1 a := fun a ha => by rw [← hκ9]; exact zlA_o _ ha _
  have r3 : κ9.2.2 = κ8.2.2 := by rw [← hκ9]; rfl
  have r4 : κ9.1 43 0 = nI Λ.length := by rw [← hκ9]; exact (zsi2_s κ8 43 0 _).trans ((congrFun (p1 45 (by decide)) 0).trans c45)
  have r5 : κ9.2.1 44 = g' := by rw [← hκ9]; exact zlA_s _ _ _
  have s8 : κ9.1 8 = κ3.1 8 := (r1 8 (by decide)).trans ((p1 8 (by decide)).trans (q1 8 (by omega)))
  have sr : ∀ a, a = 33 ∨ a = 35 ∨ a = 47 ∨ a = 69 ∨ a = 57 → κ9.2.1 a = κ3.2.1 a := fun a ha => (r2 a (by omega)).trans ((p2 a (by omega)).trans (q2 a ha))
  have l1 : ∀ o, o ≠ 8 → (zlref (zl_si κ9 8 16 (nI i)) 3).1 o = κ9.1 o := fun o ho => (zsi2_o (zl_si κ9 8 16 (nI i)) ho 18 (-(nI 3))).trans (zsi2_o _ ho _ _)
  have l2 : ∀ a, a ≠ 69 → (zlref (zl_si κ9 8 16 (nI i)) 3).2.1 a = κ9.2.1 a := fun a ha => zla_o (zl_si (zl_si κ9 8 16 (nI i)) 8 18 (-(nI 3))) ha _ _
  have l3 : (zlref (zl_si κ9 8 16 (nI i)) 3).2.2 = κ9.2.2 := rfl
  have hQ : zQc (zlref (zl_si κ9 8 16 (nI i)) 3) ρ n 9 (zKL K T z) m hn t Ls := by
    have e1 := zQR_e h.2.2.1 hm7 hn8 ht6 hE
    have e2 := zQR_e (i' := i3) (A' := A3) (T' := T3) e1 hm7 hn8 ht6 ⟨by rw [← c21]; exact hE3.1, fun c j c1 c9 hj => (hE3.2.1 c j c1 c9 hj).trans (congrFun (cA c c1 c9) j), fun j hj => by rw [← c31]; exact hE3.2.2 j hj⟩
    have e3 := zQR_K e2 hm7 hn8 (fun j hj => lo j (by omega))
    refine zQR_e e3 hm7 hn8 ht6 ⟨?_, fun c j c1 c9 hj => ?_, fun j hj => ?_⟩
    · rw [l1 9 (by decide), r1 9 (by decide), p4]
      exact ⟨rfl, rfl, rfl, rfl⟩
    · show (zlref (zl_si κ9 8 16 (nI i)) 3).2.1 (9 + c) j = _
      rw [l2 _ (by omega), r2 _ (by omega), p5 c c1 c9]
    · show (zlref (zl_si κ9 8 16 (nI i)) 3).2.2 19 j = _
      rw [l3, r3, p6]
  refine zIV_mk (zIV_ref (q := 3) (zIV_stop h (nI i)) (by omega)) (zKW_KL h.2.1 hN) hQ ⟨h.2.2.2.1.1, o2.2.2.2.2.1, o2.2.2.2.2.2.1, o2.2.2.2.2.2.2, ?_, ?_⟩ o2.1 o2.2.2.1 ?_ ?_ (fun a ha => zlref_r _ _ (sr a (by omega)) (sr 69 (by omega))) ?_ ?_ (fun k hk => ?_) (fun a ha => ?_)
  · rw [l1 43 (by decide)]; exact r4
  · rw [l2 44 (by decide), r5]
    intro j hj
    have h16 := h.2.2.2.1.1
    rw [hg _ (by omega), p2 46 (by omega), h7.2.1 46 (by omega) (by decide) (by decide) (by decide) (by decide), b8 _ (by omega)]
    exact h.2.2.2.1.2.2.2.2.2 j hj
  · rw [zlref_8, zlref_8, s8]
  · rw [l1 32 (by decide), r1 32 (by decide), p1 32 (by decide), q1 32 (by omega)]
    exact ((zsi2_o (zl_si κ3 8 16 (nI i)) (show 32 ≠ 8 by decide) 18 (-(nI 3))).trans (zsi2_o κ3 (show 32 ≠ 8 by decide) _ _)).symm
  · exact congrFun (zlref_r _ _ (sr 57 (by omega)) (sr 69 (by omega))) 0
  · rw [l3, r3, p3 20 (by decide), h7.2.2, b3 20 (by decide)]
    rfl
  · rcases hk with rfl | rfl | rfl | rfl | rfl | rfl
    · exact o3
    · exact o1.1 7 rfl (by decide) (by decide) (by decide) (by decide) (by decide)
    · exact o4
    · exact o5
    · exact o6
    · exact o1.1 53 rfl (by decide) (by decide) (by decide) (by decide) (by decide)
  · rcases ha with rfl | rfl | rfl | rfl | rfl | rfl
    · exact o7
    · exact o1.2 73 rfl (by decide) (by decide) (by decide) (by decide)
    · exact o1.2 74 rfl (by decide) (by decide) (by decide) (by decide)
    · exact o1.2 77 rfl (by decide) (by decide) (by decide) (by decide)
    · exact o1.2 78 rfl (by decide) (by decide) (by decide) (by decide)
    · exact o1.2 97 rfl (by decide) (by decide) (by decide) (by decide)
/-- orders that were run -/
theorem zIV_ory (h : zIV n κ3 (zm_si (zm_si (zm_si σ 14 0) 15 (-1)) 45 (-1)) ρ K m hn t 0 Ls Λ) (h6 : zB6 κ6 κ3 i2 A2 T2) (h7 : zOf κ7 κ6) (hR : zRC κ7 ρ n m hn t Ls S)
    (o1 : zOr τ σ) (o2 : zMS τ m Lo S.1 S.2.1) (o3 : τ.1 0 = 0) (o4 : τ.1 14 = 0) (o5 : τ.1 15 = -1) (o6 : τ.1 45 = -1) (o7 : τ.2.1 71 = σ.2.1 71) : zIV n (zl_si κ7 8 18 (nI 0)) τ ρ S.1 m hn t 0 Ls S.2.1 := by
  obtain ⟨b1, b2, b3, -⟩ := h6
  have q1 : ∀ o, o = 8 ∨ o = 32 → κ7.1 o = κ3.1 o := fun o ho => (h7.1 o (by omega) (by omega)).trans (b1 o (by omega) (by omega))
  have q2 : ∀ a, a = 33 ∨ a = 35 ∨ a = 47 ∨ a = 69 ∨ a = 57 → κ7.2.1 a = κ3.2.1 a := fun a ha => (h7.2.1 a (by omega) (by omega) (by omega) (by omega) (by omega)).trans (b2 a (by omega) (by omega) (by omega))
  have l1 : ∀ o, o ≠ 8 → (zl_si κ7 8 18 (nI 0)).1 o = κ7.1 o := fun o ho => zsi2_o _ ho _ _
  obtain ⟨hC1, hC2, hC3, hC4, hC5⟩ := hR.1
  refine zIV_mk (zIV_acc h) hC1 (zQc_f hC2 (l1 9 (by decide)) (fun _ _ _ => rfl) rfl) ⟨hC3, o2.2.2.2.2.1, o2.2.2.2.2.2.1, o2.2.2.2.2.2.2, by rw [l1 43 (by decide)]; exact hC4, hC5⟩ o2.1 o2.2.2.1 ?_ ?_ (fun a ha => q2 a (by omega)) (congrFun (q2 57 (by omega)) 0) ?_ (fun k hk => ?_) (fun a ha => ?_)
  · show va_up κ7.1 8 (va_up (κ7.1 8) 18 (nI 0)) 8 = va_up κ3.1 8 (va_up (κ3.1 8) 18 (nI 0)) 8
    rw [va_up_self, va_up_self, q1 8 (by omega)]
  · rw [l1 32 (by decide), q1 32 (by omega)]
    exact (zsi2_o _ (by decide) _ _).symm
  · show κ7.2.2 20 = κ3.2.2 20
    rw [h7.2.2, b3 20 (by decide)]
  · rcases hk with rfl | rfl | rfl | rfl | rfl | rfl
    · exact o3
    · exact o1.1 7 rfl (by decide) (by decide) (by decide) (by decide) (by decide)
    · exact o4
    · exact o5
    · exact o6
    · exact o1.1 53 rfl (by decide) (by decide) (by decide) (by decide) (by decide)
  · rcases ha with rfl | rfl | rfl | rfl | rfl | rfl
    · exact o7
    · exact o1.2 73 rfl (by decide) (by decide) (by decide) (by decide)
    · exact o1.2 74 rfl (by decide) (by decide) (by decide) (by decide)
    · exact o1.2 77 rfl (by decide) (by decide) (by decide) (by decide)
    · exact o1.2 78 rfl (by decide) (by decide) (by decide) (by decide)
    · exact o1.2 97 rfl (by decide) (by decide) (by decide) (by decide)
theorem zk_orders (hD : 88 ≤ D) (h : zIV n κ σ ρ K m hn t z Ls Λ) : zCase l G D 15 887 yX11_orders yX12_orders [] n κ σ ρ := by
  intro P1 h1
  have hm7 := h.2.1.1.2.1
  have n90 := h.1.1
  obtain ⟨t1, t2, t3, t4, t5⟩ := h.2.2.2.2.1
  have h0 := zIV_t0 h
  have eRd := zTp_Rd t4 true
  have eC := zTp_c t4
  have eV := zTp_v t4
  have eN := zTp_tok t4
  have hlen : (zTok (κ.2.1 47) z).length ≤ z := ztok_len _ _ 401 0 (Nat.zero_le _)
  rw [eN] at hlen
  have hN : (zTok (σ.2.1 78) z).length ≤ 400 := by omega
  refine zq_enter (cc := cX11_orders) (nL := 4) (ret := (some .int)) cw_X11_orders (by decide) rfl (Nat.le_of_ble_eq_true rfl) ?_
  refine at_aload_n dX11_orders_0 rfl ?_
  refine at_get dX11_orders_1 fl_X11_40 (zl_o rfl) rfl ?_
  rw [t3]
  refine at_istore_n dX11_orders_4 rfl (by decide) ?_
  refine at_aload_n dX11_orders_5 rfl ?_
  refine at_iconst dX11_orders_6 (v := nI 0) (by decide) ?_
  refine at_lput dX11_orders_7 (pl_X11_40 _) (fun i => ⟨_, rfl, Nat.le_of_ble_eq_true rfl, fun v => rfl⟩) rfl rfl ?_
  refine at_aload_n dX11_orders_10 rfl ?_
  refine at_get dX11_orders_11 fl_X11_47 (zl_o rfl) rfl ?_
  refine at_aload_n dX11_orders_14 rfl ?_
  refine at_get dX11_orders_15 fl_X11_36 (zl_o rfl) rfl ?_
  refine at_iload_n dX11_orders_18 rfl ?_
  refine at_iconst dX11_orders_19 (v := nI 1) (by decide) ?_
  refine at_callV3 (d := D - 1) dX11_orders_20 mv_X11_185 (zl_o rfl) (Nat.le_of_ble_eq_true rfl) ⟨by show D - 1 + 1 ≤ D; omega, by show 60 * (D - 1) + 59 ≤ 60 * D; omega, by show 0 + 15 ≤ 15; omega, by show 0 + 887 ≤ 887; omega⟩ ?_
  refine zc_readOrders (κ := zl_si κ 8 7 (nI 0)) (z := z) (by omega) t2 (by omega) (fun j hj => by obtain ⟨x, x1, x2, x3⟩ := t4 j hj; exact ⟨x, x1, x2⟩) (fun e κ2 ρ2 n2 g1 g2 g3 g4 g7 => ?_) (fun e κ2 ρ2 n2 L g1 g2 g3 g4 g7 g5 g6 => ?_)
  · have e : ¬ (zRd (κ.2.1 47) z true).2.2 = 0 := e
    rw [eRd] at e
    have g2 : κ2.1 48 7 = nI ((zRd (κ.2.1 47) z true).2.2 - 1) := g2
    rw [eRd] at g2
    have hρ := zm_hs n90 g3
    have hfl : nI ((zRd (σ.2.1 78) z true).2.2 - 1) = zlast (zRd (σ.2.1 78) z true).2.2 := by
      cases hq : (zRd (σ.2.1 78) z true).2.2 with
      | zero => exact absurd hq e
      | succ q => rfl
    have hp := h1 (.int (-(nI 6))) n2 (zl_h (zlref (zl_si (zl_si κ2 8 15 (κ2.1 48 7)) 8 16 (-1)) 6) ρ2) (by rw [← hρ]; exact ⟨rfl, _, rfl⟩) (fun P2 h2 => by
      rw [← hρ, zlm]
      refine zm_orders (Os := []) (by omega) t5 t1 t2 (zIV_MS h) (fun τ _ hE => ?_) (fun f => absurd f e) (fun τ i f => absurd f e) (fun τ S' f => absurd f e)
      rw [← zlm]
      refine h2 _ _ _ _ (zfin (zIV_g (zIV_ref (zIV_stop (zIV_fault (zIV_n (zIV_f h0 (zKf_g g1)) g4 (fun k k1 k2 => (g3 k (by omega)).trans (zm_hx _ _ (Or.inr k1))) g7) (κ2.1 48 7)) (-1)) (by omega)) ?_ (fun y y1 y5 => ?_)))
      · rw [g2, hfl]; exact zMf_t (zMf_E hE) (zMf_o σ _ 6)
      · rw [hE.2 76 rfl]
        exact zIV_rk h y y1 y5)
    refine at_astore_nN dX11_orders_23 rfl (by decide) ?_
    refine at_aload_n dX11_orders_24 rfl ?_
    refine at_aload_n dX11_orders_25 rfl ?_
    refine at_get dX11_orders_26 fl_X11_47 (zl_o rfl) rfl ?_
    refine at_callV0 (d := D - 1) dX11_orders_29 mv_X11_189 (zl_o rfl) (Nat.le_of_ble_eq_true rfl) (zq_r0 (by omega) (by omega) (by omega)) ?_
    refine zc_faultPlace ?_
    refine at_lput dX11_orders_32 (pl_X11_85 _) (fun i => ⟨_, rfl, Nat.le_of_ble_eq_true rfl, fun v => rfl⟩) rfl rfl ?_
    refine at_aload_n dX11_orders_35 rfl ?_
    refine at_iconst dX11_orders_36 (v := -1) rfl ?_
    refine at_lput dX11_orders_37 (pl_X11_88 _) (fun i => ⟨_, rfl, Nat.le_of_ble_eq_true rfl, fun v => rfl⟩) rfl rfl ?_
    refine at_aload_nN dX11_orders_40 rfl ?_
    refine at_ifnonnullN dX11_orders_41 ?_
    refine at_aload_n dX11_orders_44 rfl ?_
    refine at_bipush dX11_orders_45 (v := -6) (by decide) ?_
    refine at_callV1 (d := D - 1) dX11_orders_47 mv_X11_103 (zl_o rfl) (Nat.le_of_ble_eq_true rfl) (zq_r0 (by omega) (by omega) (by omega)) ?_
    refine zc_refuse (q := 6) (by omega) ?_
    refine at_iret dX11_orders_50 rfl (by omega) (by omega) ?_
    exact hp
  · have e : (zRd (κ.2.1 47) z true).2.2 = 0 := e
    rw [eRd] at e
    have g6 : zSpOs (zcN (κ.2.1 47) z) (zvN (κ.2.1 47) z) (zTok (κ.2.1 47) z).length L 0 := g6
    rw [eC, eV, eN] at g6
    have hρ := zm_hs n90 g3
    have hr98 : ∀ k, 98 ≤ k → k < n + 8 → ρ2 k = ρ k := fun k k1 k2 => (g3 k (by omega)).trans (zm_hx _ _ (Or.inr k1))
    have hiv := zIV_stop (zIV_fault (zIV_n (zIV_f h0 (zKf_g g1)) g4 hr98 g7) (κ2.1 48 7)) (-1)
    have htx0 := g5 (zm_h σ ρ2) (fun k _ _ => by rw [hρ])
    obtain ⟨N0, cd0, F0, ⟨cl0, cp0, gg0, cr0, hTx, hcp, hcl, hsz, hgg, hFF⟩, hCC⟩ := htx0
    have g2 : κ2.1 48 7 = -1 := g2
    rw [show zl_h κ2 ρ2 = zl_h κ2 (zm_h σ ρ2) by rw [hρ]]
    have hn2 : 90 ≤ n2 := by omega
    clear g3 g4 g5 g7 hr98
    refine at_astore_n dX11_orders_23 rfl (by decide) ?_
    refine at_aload_n dX11_orders_24 rfl ?_
    refine at_aload_n dX11_orders_25 rfl ?_
    refine at_get dX11_orders_26 fl_X11_47 (zl_o rfl) rfl ?_
    refine at_callV0 (d := D - 1) dX11_orders_29 mv_X11_189 (zl_o rfl) (Nat.le_of_ble_eq_true rfl) (zq_r0 (by omega) (by omega) (by omega)) ?_
    refine zc_faultPlace ?_
    refine at_lput dX11_orders_32 (pl_X11_85 _) (fun i => ⟨_, rfl, Nat.le_of_ble_eq_true rfl, fun v => rfl⟩) rfl rfl ?_
    refine at_aload_n dX11_orders_35 rfl ?_
    refine at_iconst dX11_orders_36 (v := -1) rfl ?_
    refine at_lput dX11_orders_37 (pl_X11_88 _) (fun i => ⟨_, rfl, Nat.le_of_ble_eq_true rfl, fun v => rfl⟩) rfl rfl ?_
    refine at_aload_n dX11_orders_40 rfl ?_
    refine at_ifnonnull (tgt := 51) dX11_orders_41 (by decide) ?_
    rw [g2] at hiv ⊢
    generalize hκ3 : zl_si (zl_si κ2 8 15 (-1)) 8 16 (-1) = κ3 at hiv ⊢
    have hx98 : ∀ κ' : zl_S, ∀ j, 98 ≤ j → zl_h κ' (zm_h σ ρ2) j = ρ2 j := fun κ' j hj => by rw [zl_hi _ _ (Or.inr (by omega)), zm_hx _ _ (Or.inr hj)]
    have htxt := hiv.2.2.1.2.2.2.2.2.2.2.2.2.2
    refine at_aload_n dX11_orders_51 rfl ?_
    refine at_get dX11_orders_52 fl_X11_20 (zl_o rfl) rfl ?_
    refine at_aload_n dX11_orders_55 rfl ?_
    refine at_get dX11_orders_56 fl_X11_12 (zl_o rfl) rfl ?_
    refine at_callV1 (d := D - 1) dX11_orders_59 mv_X11_196 (zl_q zQ21) (Nat.le_of_ble_eq_true rfl) (zq_r0 (by omega) (by omega) (by omega)) ?_
    refine zc_copyFrom (by omega) (Or.inr (by omega)) (zUA_c zQ21) (zUA_c zQ9) (fun j hj => ?_) (fun i2 A2 T2 hE => ?_)
    · rcases htxt j hj with e | ⟨tx, fs, e1, e2, e3, e4⟩
      · exact Or.inl e
      · exact Or.inr ⟨tx, fs, e1, (hx98 _ tx e2).trans e4, Or.inr (by omega)⟩
    rw [zcpQ_h zQ21]
    refine at_aload_n dX11_orders_62 rfl ?_
    refine at_get dX11_orders_63 fl_X11_33 (zl_o rfl) rfl ?_
    refine at_aload_n dX11_orders_66 rfl ?_
    refine at_get dX11_orders_67 fl_X11_29 (zl_o rfl) rfl ?_
    refine at_callV1 (d := D - 1) dX11_orders_70 mv_X11_200 (zl_o rfl) (Nat.le_of_ble_eq_true rfl) (zq_r0 (by omega) (by omega) (by omega)) ?_
    refine zc_logCopy (p := 45) (q := 43) (by omega) (Or.inr ⟨rfl, rfl⟩) (fun g hg => ?_)
    refine at_aload_n dX11_orders_73 rfl ?_
    refine at_get dX11_orders_74 fl_X11_79 (zl_o rfl) rfl ?_
    refine at_iconst dX11_orders_77 (v := nI 1) (by decide) ?_
    refine at_iconst dX11_orders_78 (v := nI 0) (by decide) ?_
    refine at_last2 (a := 68) dX11_orders_79 rfl rfl (by show _ < 19; omega) (by decide) ?_
    refine at_aload_n dX11_orders_80 rfl ?_
    refine at_get dX11_orders_81 fl_X11_79 (zl_o rfl) rfl ?_
    refine at_iconst dX11_orders_84 (v := nI 2) (by decide) ?_
    refine at_iconst dX11_orders_85 (v := -1) rfl ?_
    refine at_last2 (a := 68) dX11_orders_86 rfl rfl (by show _ < 19; omega) (by decide) ?_
    refine at_iconst dX11_orders_87 (v := nI 0) (by decide) ?_
    refine at_istore_n dX11_orders_88 rfl (by decide) ?_
    have h6 := zB6_of hg
    generalize hκ6 : zl_sa (zl_sa (zl_sA (zl_si (zcpQ κ3 21 i2 A2 T2) 45 0 ((zcpQ κ3 21 i2 A2 T2).1 43 0)) (45 + 1) g) 68 1 (nI 0)) 68 2 (-1) = κ6 at *
    have h6 : zB6 κ6 κ3 i2 A2 T2 := h6
    obtain ⟨b1, b2, b3, b4, b5, b6, b7, b8, b9, b10⟩ := id h6
    have hLo : zLoK (zKL K (σ.2.1 78) z) Ls = zLoK K Ls := by unfold zLoK; rw [zKL_lo hN (by decide)]
    have hKW := zKW_KL (T := σ.2.1 78) (z := z) h.2.1 hN
    have hQ6 : zQc κ6 ρ2 n2 9 (zKL K (σ.2.1 78) z) m hn t Ls := zQR_K (zQc_f hiv.2.2.1 (b1 9 (by decide) (by decide)) (fun c c1 c9 => b2 _ (by omega) (by omega) (by omega)) (b3 _ (by decide))) hm7 h.2.1.2.2.2.2.2.2.2.1.2.1 (fun j hj => zKL_lo hN (by omega))
    have hR6 : zRC κ6 ρ2 n2 m hn t Ls (zKL K (σ.2.1 78) z, Λ, 0, -1) := ⟨⟨hKW, hQ6, hiv.2.2.2.1.1, by rw [b1 43 (by decide) (by decide)]; exact hiv.2.2.2.1.2.2.2.2.1, by rw [b2 44 (by omega) (by decide) (by decide)]; exact hiv.2.2.2.1.2.2.2.2.2⟩, b9, b10, by show 0 ≤ 100000; omega, by show (-1 : Int) ≤ -1; omega, by show (-1 : Int) ≤ 99; omega⟩
    refine at_lv [0, 2, 3] (zc_or_loop (K0 := zKL K (σ.2.1 78) z) (by omega) hTx hcp hcl hsz hgg hFF (zrunsF m (zLoK K Ls) L 0 (zKL K (σ.2.1 78) z, Λ, 0, -1)) (fun κ7 i e7 i12 s7 => ?_) (fun κ7 S' e7 s7 s8 s9 => ?_) L 0 (zKL K (σ.2.1 78) z, Λ, 0, -1) κ6 (fun j c hj => by rw [Nat.zero_add]; exact hCC j c hj) (Nat.zero_add _) hR6 hLo (fun _ _ => rfl) (zOf_r κ6) (Nat.zero_le _) rfl)
    · have c31 : κ7.2.2 31 = T2 := by rw [s7.2.2]; exact b6
      refine at_aload_n dX11_orders_117 rfl ?_
      refine at_get dX11_orders_118 fl_X11_12 (zl_o rfl) rfl ?_
      refine at_aload_n dX11_orders_121 rfl ?_
      refine at_get dX11_orders_122 fl_X11_20 (zl_o rfl) rfl ?_
      refine at_callV1 (d := D - 1) dX11_orders_125 mv_X11_196 (zl_q zQ9) (Nat.le_of_ble_eq_true rfl) (zq_r0 (by omega) (by omega) (by omega)) ?_
      refine zc_copyFrom (by omega) (Or.inl (by omega)) (zUA_c zQ9) (zUA_c zQ21) (fun j hj => ?_) (fun i3 A3 T3 hE3 => ?_)
      · rw [c31, hE.2.2 j hj]
        rcases htxt j hj with e | ⟨tx, fs, e1, e2, e3, e4⟩
        · exact Or.inl e
        · exact Or.inr ⟨tx, fs, e1, (hx98 _ tx e2).trans e4, Or.inr (by omega)⟩
      rw [zcpQ_h zQ9]
      refine at_aload_n dX11_orders_128 rfl ?_
      refine at_get dX11_orders_129 fl_X11_29 (zl_o rfl) rfl ?_
      refine at_aload_n dX11_orders_132 rfl ?_
      refine at_get dX11_orders_133 fl_X11_33 (zl_o rfl) rfl ?_
      refine at_callV1 (d := D - 1) dX11_orders_136 mv_X11_200 (zl_o rfl) (Nat.le_of_ble_eq_true rfl) (zq_r0 (by omega) (by omega) (by omega)) ?_
      refine zc_logCopy (p := 43) (q := 45) (by omega) (Or.inl ⟨rfl, rfl⟩) (fun g' hg' => ?_)
      have hp := h1 (.int (-(nI 3))) n2 (zl_h (zlref (zl_si (zl_sA (zl_si (zcpQ κ7 9 i3 A3 T3) 43 0 ((zcpQ κ7 9 i3 A3 T3).1 45 0)) 44 g') 8 16 (nI i)) 3) (zm_h σ ρ2)) (by exact ⟨rfl, _, rfl⟩) (fun P2 h2 => by
        rw [zlm]
        refine zm_orders (Os := L) (by omega) t5 t1 t2 (zIV_MS h) (fun τ f => absurd e f) (fun _ => g6) (fun τ j _ f o1 o2 o3 o4 o5 o6 o7 => ?_) (fun τ S' _ f => ?_)
        · have hij : i = j := Sum.inr.inj (e7.symm.trans f)
          rw [← hij] at o6
          rw [← zlm]
          exact h2 _ _ _ _ (zfin (zIV_orn hN hiv hE h6 s7 hE3 hg' o1 o2 o3 o4 o5 o6 o7))
        · rw [e7] at f; cases f)
      refine at_aload_n dX11_orders_139 rfl ?_
      refine at_iload_n dX11_orders_140 rfl ?_
      refine at_lput dX11_orders_141 (pl_X11_88 _) (fun i => ⟨_, rfl, Nat.le_of_ble_eq_true rfl, fun v => rfl⟩) rfl rfl ?_
      refine at_aload_n dX11_orders_144 rfl ?_
      refine at_bipush dX11_orders_145 (v := -3) (by decide) ?_
      refine at_callV1 (d := D - 1) dX11_orders_147 mv_X11_103 (zl_o rfl) (Nat.le_of_ble_eq_true rfl) (zq_r0 (by omega) (by omega) (by omega)) ?_
      refine zc_refuse (q := 3) (by omega) ?_
      refine at_iret dX11_orders_150 rfl (by omega) (by omega) ?_
      exact hp
    · refine h1 (.int (nI S'.2.2.1)) n2 _ (by exact ⟨rfl, _, rfl⟩) (fun P2 h2 => ?_)
      rw [zlm]
      refine zm_orders (Os := L) (by omega) t5 t1 t2 (zIV_MS h) (fun τ f => absurd e f) (fun _ => g6) (fun τ j _ f => ?_) (fun τ S2 _ f o1 o2 o3 o4 o5 o6 o7 _ => ?_)
      · rw [e7] at f; cases f
      · have hij : S' = S2 := Sum.inl.inj (e7.symm.trans f)
        rw [← hij] at o2 ⊢
        rw [← zlm]
        exact h2 _ _ _ _ (zfin (zIV_ory hiv h6 s7 s8 o1 o2 o3 o4 o5 o6 o7))
end ZK31

