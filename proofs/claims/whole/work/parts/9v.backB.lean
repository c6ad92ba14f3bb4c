/-! ===== calls on both sides: gone back ===== -/
theorem dX11_back_0 : decode cX11_back 0 = .ok (.iload_n 1, 1) := by decide +kernel
theorem dX11_back_1 : decode cX11_back 1 = .ok (.ifCond .eq 14, 3) := by decide +kernel
theorem dX11_back_4 : decode cX11_back 4 = .ok (.iload_n 1, 1) := by decide +kernel
theorem dX11_back_5 : decode cX11_back 5 = .ok (.iconst 1, 1) := by decide +kernel
theorem dX11_back_6 : decode cX11_back 6 = .ok (.if_icmp .eq 9, 3) := by decide +kernel
theorem dX11_back_9 : decode cX11_back 9 = .ok (.aload_n 0, 1) := by decide +kernel
theorem dX11_back_10 : decode cX11_back 10 = .ok (.iconst (-1), 1) := by decide +kernel
theorem dX11_back_11 : decode cX11_back 11 = .ok (.invokevirtual 103, 3) := by decide +kernel
theorem dX11_back_14 : decode cX11_back 14 = .ok (.ireturn, 1) := by decide +kernel
theorem dX11_back_15 : decode cX11_back 15 = .ok (.aload_n 0, 1) := by decide +kernel
theorem dX11_back_16 : decode cX11_back 16 = .ok (.getfield 16, 3) := by decide +kernel
theorem dX11_back_19 : decode cX11_back 19 = .ok (.iload_n 1, 1) := by decide +kernel
theorem dX11_back_20 : decode cX11_back 20 = .ok (.aaload, 1) := by decide +kernel
theorem dX11_back_21 : decode cX11_back 21 = .ok (.astore_n 2, 1) := by decide +kernel
theorem dX11_back_22 : decode cX11_back 22 = .ok (.aload_n 2, 1) := by decide +kernel
theorem dX11_back_23 : decode cX11_back 23 = .ok (.ifnonnull 10, 3) := by decide +kernel
theorem dX11_back_26 : decode cX11_back 26 = .ok (.aload_n 0, 1) := by decide +kernel
theorem dX11_back_27 : decode cX11_back 27 = .ok (.bipush (-2), 2) := by decide +kernel
theorem dX11_back_29 : decode cX11_back 29 = .ok (.invokevirtual 103, 3) := by decide +kernel
theorem dX11_back_32 : decode cX11_back 32 = .ok (.ireturn, 1) := by decide +kernel
theorem dX11_back_33 : decode cX11_back 33 = .ok (.aload_n 0, 1) := by decide +kernel
theorem dX11_back_34 : decode cX11_back 34 = .ok (.getfield 12, 3) := by decide +kernel
theorem dX11_back_37 : decode cX11_back 37 = .ok (.aload_n 2, 1) := by decide +kernel
theorem dX11_back_38 : decode cX11_back 38 = .ok (.invokevirtual 196, 3) := by decide +kernel
theorem dX11_back_41 : decode cX11_back 41 = .ok (.aload_n 0, 1) := by decide +kernel
theorem dX11_back_42 : decode cX11_back 42 = .ok (.getfield 29, 3) := by decide +kernel
theorem dX11_back_45 : decode cX11_back 45 = .ok (.invokevirtual 111, 3) := by decide +kernel
theorem dX11_back_48 : decode cX11_back 48 = .ok (.aload_n 0, 1) := by decide +kernel
theorem dX11_back_49 : decode cX11_back 49 = .ok (.iconst 0, 1) := by decide +kernel
theorem dX11_back_50 : decode cX11_back 50 = .ok (.invokevirtual 117, 3) := by decide +kernel
theorem dX11_back_53 : decode cX11_back 53 = .ok (.ireturn, 1) := by decide +kernel
abbrev mX11_back : zq_M := (cX11_back, RX11, "back", (some .int), 3)
/-- a quay's cells, all new -/
def zcpQ (κ : zl_S) (b : Nat) (i : Nat → Int32) (A : Nat → Nat → Int32) (T : Nat → Option Nat) : zl_S := (va_up κ.1 b i, fun a => if b < a ∧ a < b + 10 then A (a - b) else κ.2.1 a, va_up κ.2.2 (b + 10) T)
section ZCQ
variable (κ : zl_S) (b : Nat) (i : Nat → Int32) (A : Nat → Nat → Int32) (T : Nat → Option Nat)
theorem zcpQ_i : (zcpQ κ b i A T).1 b = i := va_up_self _ _ _
theorem zcpQ_io {o : Nat} (h : o ≠ b) : (zcpQ κ b i A T).1 o = κ.1 o := va_up_ne _ _ h
theorem zcpQ_t : (zcpQ κ b i A T).2.2 (b + 10) = T := va_up_self _ _ _
theorem zcpQ_to {o : Nat} (h : o ≠ b + 10) : (zcpQ κ b i A T).2.2 o = κ.2.2 o := va_up_ne _ _ h
theorem zcpQ_r {c : Nat} (h1 : 1 ≤ c) (h9 : c ≤ 9) : (zcpQ κ b i A T).2.1 (b + c) = A c := by
  show (if b < b + c ∧ b + c < b + 10 then A (b + c - b) else κ.2.1 (b + c)) = A c
  rw [if_pos (by omega), show b + c - b = c by omega]
theorem zcpQ_ro {a : Nat} (h : ¬ (b < a ∧ a < b + 10)) : (zcpQ κ b i A T).2.1 a = κ.2.1 a := if_neg h
end ZCQ
theorem zl_hk {κ κ' : zl_S} (ρ : Nat → zq_E) {k : Nat} (h1 : κ'.1 k = κ.1 k) (h2 : κ'.2.1 k = κ.2.1 k) (h3 : κ'.2.2 k = κ.2.2 k) : zl_h κ' ρ k = zl_h κ ρ k := by
  unfold zl_h
  rw [h1, h2, h3]
theorem zcpQ_h {κ : zl_S} {ρ : Nat → zq_E} {b : Nat} (hb : zQb b) (i : Nat → Int32) (A : Nat → Nat → Int32) (T : Nat → Option Nat) : zu_set (zl_h κ ρ) b i A T = zl_h (zcpQ κ b i A T) ρ := by
  have c1 : (zcpQ κ b i A T).1 b = i := va_up_self _ _ _
  have c2 : ∀ c, 1 ≤ c → c ≤ 9 → (zcpQ κ b i A T).2.1 (b + c) = A c := fun c h1 h9 => by
    show (if b < b + c ∧ b + c < b + 10 then A (b + c - b) else κ.2.1 (b + c)) = A c
    rw [if_pos (by omega), show b + c - b = c by omega]
  have c3 : (zcpQ κ b i A T).2.2 (b + 10) = T := va_up_self _ _ _
  funext k
  by_cases e0 : k = b
  · rw [e0, zus_o, zl_q hb, c1]
  · by_cases e1 : k = b + 10
    · rw [e1, zus_t, zl_qt hb, c3]
    · by_cases e2 : b < k ∧ k < b + 10
      · obtain ⟨c, rfl⟩ : ∃ c, k = b + c := ⟨k - b, by omega⟩
        rw [zus_a (by omega) (by omega), zl_a (zl_qA hb (by omega) (by omega)).1, (zl_qA hb (by omega) (by omega)).2, c2 c (by omega) (by omega)]
      · rw [zus_x (by omega)]
        refine (zl_hk ρ (va_up_ne _ _ e0) ?_ (va_up_ne _ _ e1)).symm
        show (if b < k ∧ k < b + 10 then A (k - b) else κ.2.1 k) = _
        rw [if_neg e2]
theorem zUA_c {κ : zl_S} {ρ : Nat → zq_E} {b : Nat} (hb : zQb b) : zUA (zl_h κ ρ) b (κ.1 b) (fun c => κ.2.1 (b + c)) (κ.2.2 (b + 10)) := ⟨zl_q hb, fun c h1 h9 => by rw [zl_a (zl_qA hb h1 h9).1, (zl_qA hb h1 h9).2], zl_qt hb⟩
section ZK19
variable {l : Launch} {G : zq_G} {D n n' b : Nat} {κ κ' : zl_S} {σ τ : zm_S} {ρ ρ' : Nat → zq_E} {K K' : Nat → Int32} {m hn t z : Nat} {Ls : Nat → List zLC} {Λ Λ' : List Nat} {Lo : Option (List zLC)} {post : Option Value → Nat → (Nat → zq_E) → Prop} {i i' : Nat → Int32} {A A' : Nat → Nat → Int32} {T T' : Nat → Option Nat}
theorem zQR_e (h : zQR ρ n i A T K m hn t Ls) (hm : m ≤ 7) (h8 : hn ≤ 8) (ht : t ≤ 6) (e : zUE i' i A' A T' T) : zQR ρ n i' A' T' K m hn t Ls := by
  obtain ⟨⟨i0, i8, i11, i13⟩, a1, a2, a3, a4, a5, a6, a7, a8, a9, a10⟩ := h
  obtain ⟨⟨j0, j8, j11, j13⟩, eA, eT⟩ := e
  refine ⟨⟨j0.trans i0, j8.trans i8, j11.trans i11, j13.trans i13⟩, fun p hp => ?_, fun q hq => ?_, fun p hp => ?_, fun q hq => ?_, fun q hq => ?_, fun y hy => ?_, ⟨?_, ?_, ?_⟩, fun q hq => ⟨?_, ?_⟩, fun u hu => ?_, fun u hu => ?_⟩
  · rw [eA 1 p (by decide) (by decide) (by show p < 7; omega)]; exact a1 p hp
  · rw [eA 2 q (by decide) (by decide) (by show q < 7; omega)]; exact a2 q hq
  · rw [eA 3 p (by decide) (by decide) (by show p < 7; omega)]; exact a3 p hp
  · rw [eA 4 q (by decide) (by decide) (by show q < 35; omega)]; exact a4 q hq
  · rw [eA 5 q (by decide) (by decide) (by show q < 5; omega)]; exact a5 q hq
  · rw [eA 6 y (by decide) (by decide) (by show y < 6; omega)]; exact a6 y hy
  · rw [eA 7 0 (by decide) (by decide) (by show 0 < 3; omega)]; exact a7.1
  · rw [eA 7 1 (by decide) (by decide) (by show 1 < 3; omega)]; exact a7.2.1
  · rw [eA 7 2 (by decide) (by decide) (by show 2 < 3; omega)]; exact a7.2.2
  · rw [eA 8 q (by decide) (by decide) (by show q < 8; omega)]; exact (a8 q hq).1
  · rw [eA 9 q (by decide) (by decide) (by show q < 8; omega)]; exact (a8 q hq).2
  · rw [eT u (by omega)]; exact a9 u hu
  · rw [eT u hu]; exact a10 u hu
theorem zQR_K (h : zQR ρ n i A T K m hn t Ls) (hm : m ≤ 7) (h8 : hn ≤ 8) (e : ∀ j, j < 77 → K' j = K j) : zQR ρ n i A T K' m hn t Ls := by
  obtain ⟨⟨i0, i8, i11, i13⟩, a1, a2, a3, a4, a5, a6, a7, a8, a9, a10⟩ := h
  refine ⟨⟨i0, i8, i11, by rw [e 76 (by decide)]; exact i13⟩, fun p hp => ?_, fun q hq => ?_, fun p hp => ?_, fun q hq => ?_, fun q hq => ?_, ?_, ?_, fun q hq => ?_, a9, a10⟩
  · rw [e _ (by omega)]; exact a1 p hp
  · rw [e _ (by omega)]; exact a2 q hq
  · rw [zplace_c m (fun q _ => e _ (by omega))]; exact a3 p hp
  · rw [e _ (by omega)]; exact a4 q hq
  · rw [e _ (by omega)]; exact a5 q hq
  · rw [zrkK_c (fun q _ => e _ (by omega))]; exact a6
  · rw [e _ (by omega), e _ (by omega), e _ (by omega)]; exact a7
  · rw [e _ (by omega), e _ (by omega)]; exact a8 q hq
theorem zKW_e (h : zKW K m hn t Ls) (e : ∀ j, j < 5684 → K' j = K j) : zKW K' m hn t Ls := by
  obtain ⟨g4, g5, g6, g7⟩ := h.2.2.2.2.2.2.2.2
  refine zKW_g h (fun j hj => e j (by omega)) (e 73 (by decide)) ?_ ?_ ?_ (zKW_sd h (fun j j1 j2 => e j (by omega))) (zKW_hh h (fun j j1 j2 => e j (by omega)) (e 74 (by decide))) ⟨(e 75 (by decide)).trans g4, g5, by rw [e 76 (by decide)]; exact g6, fun u hu => ?_⟩
  · rw [e 19 (by decide)]; exact h.2.2.2.1
  · rw [e 71 (by decide)]; exact h.2.2.2.2.1
  · rw [e 72 (by decide)]; exact h.2.2.2.2.2.1
  · obtain ⟨E, cd, vl, q1, q2, q3, q4, q5, q6⟩ := g7 u hu
    exact ⟨E, cd, vl, q1, (e _ (by omega)).trans q2, q3, q4, fun k hk => ⟨(e _ (by omega)).trans (q5 k hk).1, (e _ (by omega)).trans (q5 k hk).2⟩, q6⟩
theorem zlies_01 {v : Int32} (h0 : ¬ v = nI 0) (h1 : ¬ v = nI 1) : (decide (nI 0 ≤ v) && decide (v ≤ nI 1)) = false := by
  cases e : (decide (nI 0 ≤ v) && decide (v ≤ nI 1)) with
  | false => rfl
  | true =>
    obtain ⟨x, x1, x2, rfl⟩ := zlies_n (by decide) (by decide) e
    rcases (show x = 0 ∨ x = 1 by omega) with rfl | rfl
    · exact absurd rfl h0
    · exact absurd rfl h1
theorem zk_back1 {v : Int32} {k : Nat} (hk : k < 2) (ev : v = nI k) (hD : 88 ≤ D) (h : zIV n κ σ ρ K m hn t z Ls Λ) (hi : zI1 κ σ ρ n k) : zCase l G D 0 0 yX11_back yX12_back [.int v] n κ σ ρ := by
  intro P1 h1
  subst ev
  have hok : (decide (nI 0 ≤ nI k) && decide (nI k ≤ nI 1)) = true := zlies_i (a := 0) (b := 1) (by decide) (by decide) (Nat.zero_le _) (by omega)
  rcases hi with ⟨i1, i2⟩ | ⟨i1, B, i, A, T, m1, hn1, t1, Ls1, K1, g1, g2, g3, g4, g5, g6, g7⟩
  · have hp := h1 (.int (-(nI 2))) n (zl_h (zlref κ 2) (zm_h σ ρ)) (by exact ⟨rfl, _, rfl⟩) (fun P2 h2 => by
      rw [zlm]
      refine zm_back (al := fun _ => 0) (by omega) (fun f => ?_) (fun b hb eb _ => ?_) (fun b hb eb f => ?_) (fun b hb eb f => ?_)
      · rw [hok] at f; cases f
      · rw [← zlm]
        exact h2 _ _ _ _ (zfin (zIV_ref h (by omega)))
      · rw [show b = k from ((nI_eq (by omega) (by omega)).mp eb).symm] at f; exact absurd i1 f
      · rw [show b = k from ((nI_eq (by omega) (by omega)).mp eb).symm] at f; exact absurd i1 f)
    refine zq_enter (cc := cX11_back) (nL := 3) (ret := (some .int)) cw_X11_back (by decide) rfl (Nat.le_of_ble_eq_true rfl) ?_
    refine at_iload_n dX11_back_0 rfl ?_
    refine at_if_eqN (tgt := 15) dX11_back_1 (by decide) (by omega) (fun c1 => ?_) (fun c1 => ?_)
    · refine at_aload_n dX11_back_15 rfl ?_
      refine at_get dX11_back_16 fl_X11_16 (zl_o rfl) rfl ?_
      refine at_iload_n dX11_back_19 rfl ?_
      refine at_aaldN dX11_back_20 rfl (by decide) (fun _ => rfl) (by decide) rfl (by omega) ?_
      rw [i2]
      refine at_astore_nN dX11_back_21 rfl (by decide) ?_
      refine at_aload_nN dX11_back_22 rfl ?_
      refine at_ifnonnullN dX11_back_23 ?_
      refine at_aload_n dX11_back_26 rfl ?_
      refine at_bipush dX11_back_27 (v := -2) (by decide) ?_
      refine at_callV1 (d := D - 1) dX11_back_29 mv_X11_103 (zl_o rfl) (Nat.le_of_ble_eq_true rfl) (zq_r0 (by omega) (by omega) (by omega)) ?_
      refine zc_refuse (q := 2) (by omega) ?_
      refine at_iret dX11_back_32 rfl (by omega) (by omega) ?_
      exact hp
    · refine at_iload_n dX11_back_4 rfl ?_
      refine at_iconst dX11_back_5 (v := nI 1) (by decide) ?_
      refine at_eqN (tgt := 15) dX11_back_6 (by decide) (by omega) (by omega) (fun c6 => ?_) (fun c6 => ?_)
      · refine at_aload_n dX11_back_15 rfl ?_
        refine at_get dX11_back_16 fl_X11_16 (zl_o rfl) rfl ?_
        refine at_iload_n dX11_back_19 rfl ?_
        refine at_aaldN dX11_back_20 rfl (by decide) (fun _ => rfl) (by decide) rfl (by omega) ?_
        rw [i2]
        refine at_astore_nN dX11_back_21 rfl (by decide) ?_
        refine at_aload_nN dX11_back_22 rfl ?_
        refine at_ifnonnullN dX11_back_23 ?_
        refine at_aload_n dX11_back_26 rfl ?_
        refine at_bipush dX11_back_27 (v := -2) (by decide) ?_
        refine at_callV1 (d := D - 1) dX11_back_29 mv_X11_103 (zl_o rfl) (Nat.le_of_ble_eq_true rfl) (zq_r0 (by omega) (by omega) (by omega)) ?_
        refine zc_refuse (q := 2) (by omega) ?_
        refine at_iret dX11_back_32 rfl (by omega) (by omega) ?_
        exact hp
      · omega
  · have hm1 := g6.1.2.1
    have hn8 := g6.2.2.2.2.2.2.2.1.2.1
    have ht6 := g6.2.2.2.2.2.2.2.2.2.1
    have hf98 : ∀ j, 98 ≤ j → zl_h κ (zm_h σ ρ) j = ρ j := fun j hj => by rw [zl_hi _ _ (Or.inr (by omega)), zm_hx _ _ (Or.inr hj)]
    have hUB : zUA (zl_h κ (zm_h σ ρ)) B i A T := ⟨(hf98 B g2).trans g4.1, fun c c1 c9 => (hf98 _ (by omega)).trans (g4.2.1 c c1 c9), (hf98 _ (by omega)).trans g4.2.2⟩
    have hp : ∀ i2 A2 T2, zUE i2 i A2 A T2 T → P1 (some (.int (nI 0))) n (zl_h (zl_si (zl_si (zcpQ κ 9 i2 A2 T2) 43 0 (nI 0)) 8 18 (nI 0)) (zm_h σ ρ)) := fun i2 A2 T2 hE => h1 _ n _ (by exact ⟨rfl, _, rfl⟩) (fun P2 h2 => by
      rw [zlm]
      refine zm_back (al := alK K1) (by omega) (fun f => ?_) (fun b hb eb f => ?_) (fun b hb eb _ q hq => ?_) (fun b hb eb _ K2 e2 => ?_)
      · rw [hok] at f; cases f
      · rw [show b = k from ((nI_eq (by omega) (by omega)).mp eb).symm] at f; exact absurd f i1
      · rw [show b = k from ((nI_eq (by omega) (by omega)).mp eb).symm, ← g5 (14 + q) (by omega)]
        exact ⟨g6.2.1.1 q hq, by have := (g6.2.1.2.1 q hq).2; omega⟩
      · rw [show b = k from ((nI_eq (by omega) (by omega)).mp eb).symm] at e2
        have e21 : ∀ j, j < 5684 → K2 j = K1 j := fun j hj => by rw [e2 j hj, g5 j hj]
        rw [← zlm]
        have hq1 : ∀ o, o ≠ 9 → (zcpQ κ 9 i2 A2 T2).1 o = κ.1 o := fun o ho => va_up_ne _ _ ho
        have hq2 : ∀ a, ¬ (9 < a ∧ a < 19) → (zcpQ κ 9 i2 A2 T2).2.1 a = κ.2.1 a := fun a ha => if_neg ha
        have hQ : zQc (zcpQ κ 9 i2 A2 T2) ρ n 9 K2 m1 hn1 t1 Ls1 := by
          have := zQR_K (zQR_e g7 hm1 hn8 ht6 hE) hm1 hn8 (fun j hj => e21 j (by omega))
          unfold zQc
          rw [zcpQ_i κ 9 i2 A2 T2, zcpQ_t κ 9 i2 A2 T2]
          refine zQR_e this hm1 hn8 ht6 ⟨⟨rfl, rfl, rfl, rfl⟩, fun c j c1 c9 _ => ?_, fun _ _ => rfl⟩
          show (zcpQ κ 9 i2 A2 T2).2.1 (9 + c) j = _
          rw [zcpQ_r κ 9 i2 A2 T2 c1 c9]
        refine h2 _ _ _ _ (zfin (zIV_acc (zIV_mk (κ' := zl_si (zcpQ κ 9 i2 A2 T2) 43 0 (nI 0)) (τ := zm_si (zsA (zsA σ 72 K2) 76 (zrk (σ.2.1 76) (alK K1) 5)) 44 0) (Λ' := []) h (zKW_e g6 e21) (zQc_f hQ (zsi2_o _ (by decide) _ _) (fun _ _ _ => rfl) rfl) (zLG_0 m1 (zsi2_s _ _ _ _) (zsi_s _ _ _)) ?_ (fun y y1 y5 => ?_) ?_ ?_ (fun a ha => hq2 a (by omega)) (congrFun (hq2 57 (by omega)) 0) (zcpQ_to κ 9 i2 A2 T2 (by decide)) (fun q hq => zsi_o _ (by omega) _) (fun a ha => (zsA_o _ (by omega) _).trans (zsA_o _ (by omega) _)))))
        · exact (zsA_o _ (by decide) _).trans (zsA_s _ _ _)
        · refine (congrFun (zsA_s _ _ _) y).trans ?_
          rw [zrk_at g6.2.1.2 _ y1 y5, zrkK_c (fun q hq => e21 _ (by omega))]
          rfl
        · exact (zsi2_o _ (by decide) _ _).trans (hq1 8 (by decide))
        · exact (zsi2_o _ (by decide) _ _).trans (hq1 32 (by decide)))
    refine zq_enter (cc := cX11_back) (nL := 3) (ret := (some .int)) cw_X11_back (by decide) rfl (Nat.le_of_ble_eq_true rfl) ?_
    refine at_iload_n dX11_back_0 rfl ?_
    refine at_if_eqN (tgt := 15) dX11_back_1 (by decide) (by omega) (fun c1 => ?_) (fun c1 => ?_)
    · refine at_aload_n dX11_back_15 rfl ?_
      refine at_get dX11_back_16 fl_X11_16 (zl_o rfl) rfl ?_
      refine at_iload_n dX11_back_19 rfl ?_
      refine at_aaldN dX11_back_20 rfl (by decide) (fun _ => rfl) (by decide) rfl (by omega) ?_
      rw [g1]
      refine at_astore_n dX11_back_21 rfl (by decide) ?_
      refine at_aload_n dX11_back_22 rfl ?_
      refine at_ifnonnull (tgt := 33) dX11_back_23 (by decide) ?_
      refine at_aload_n dX11_back_33 rfl ?_
      refine at_get dX11_back_34 fl_X11_12 (zl_o rfl) rfl ?_
      refine at_aload_n dX11_back_37 rfl ?_
      refine at_callV1 (d := D - 1) dX11_back_38 mv_X11_196 (zl_q zQ9) (Nat.le_of_ble_eq_true rfl) (zq_r0 (by omega) (by omega) (by omega)) ?_
      refine zc_copyFrom (by omega) (Or.inl (by omega)) (zUA_c zQ9) hUB (fun j hj => ?_) (fun i2 A2 T2 hE => ?_)
      · rcases g7.2.2.2.2.2.2.2.2.2.2 j hj with e | ⟨tx, fs, e1, e2, e3, e4⟩
        · exact Or.inl e
        · exact Or.inr ⟨tx, fs, e1, (hf98 tx e2).trans e4, Or.inr (by omega)⟩
      rw [zcpQ_h zQ9]
      have hp := hp i2 A2 T2 hE
      refine at_aload_n dX11_back_41 rfl ?_
      refine at_get dX11_back_42 fl_X11_29 (zl_o rfl) rfl ?_
      refine at_callV0 (d := D - 1) dX11_back_45 mv_X11_111 (zl_o rfl) (Nat.le_of_ble_eq_true rfl) (zq_r0 (by omega) (by omega) (by omega)) ?_
      refine zc_logClear ?_
      refine at_aload_n dX11_back_48 rfl ?_
      refine at_iconst dX11_back_49 (v := nI 0) (by decide) ?_
      refine at_callV1 (d := D - 1) dX11_back_50 mv_X11_117 (zl_o rfl) (Nat.le_of_ble_eq_true rfl) (zq_r0 (by omega) (by omega) (by omega)) ?_
      refine zc_accept ?_
      refine at_iret dX11_back_53 rfl (by omega) (by omega) ?_
      exact hp
    · refine at_iload_n dX11_back_4 rfl ?_
      refine at_iconst dX11_back_5 (v := nI 1) (by decide) ?_
      refine at_eqN (tgt := 15) dX11_back_6 (by decide) (by omega) (by omega) (fun c6 => ?_) (fun c6 => ?_)
      · refine at_aload_n dX11_back_15 rfl ?_
        refine at_get dX11_back_16 fl_X11_16 (zl_o rfl) rfl ?_
        refine at_iload_n dX11_back_19 rfl ?_
        refine at_aaldN dX11_back_20 rfl (by decide) (fun _ => rfl) (by decide) rfl (by omega) ?_
        rw [g1]
        refine at_astore_n dX11_back_21 rfl (by decide) ?_
        refine at_aload_n dX11_back_22 rfl ?_
        refine at_ifnonnull (tgt := 33) dX11_back_23 (by decide) ?_
        refine at_aload_n dX11_back_33 rfl ?_
        refine at_get dX11_back_34 fl_X11_12 (zl_o rfl) rfl ?_
        refine at_aload_n dX11_back_37 rfl ?_
        refine at_callV1 (d := D - 1) dX11_back_38 mv_X11_196 (zl_q zQ9) (Nat.le_of_ble_eq_true rfl) (zq_r0 (by omega) (by omega) (by omega)) ?_
        refine zc_copyFrom (by omega) (Or.inl (by omega)) (zUA_c zQ9) hUB (fun j hj => ?_) (fun i2 A2 T2 hE => ?_)
        · rcases g7.2.2.2.2.2.2.2.2.2.2 j hj with e | ⟨tx, fs, e1, e2, e3, e4⟩
          · exact Or.inl e
          · exact Or.inr ⟨tx, fs, e1, (hf98 tx e2).trans e4, Or.inr (by omega)⟩
        rw [zcpQ_h zQ9]
        have hp := hp i2 A2 T2 hE
        refine at_aload_n dX11_back_41 rfl ?_
        refine at_get dX11_back_42 fl_X11_29 (zl_o rfl) rfl ?_
        refine at_callV0 (d := D - 1) dX11_back_45 mv_X11_111 (zl_o rfl) (Nat.le_of_ble_eq_true rfl) (zq_r0 (by omega) (by omega) (by omega)) ?_
        refine zc_logClear ?_
        refine at_aload_n dX11_back_48 rfl ?_
        refine at_iconst dX11_back_49 (v := nI 0) (by decide) ?_
        refine at_callV1 (d := D - 1) dX11_back_50 mv_X11_117 (zl_o rfl) (Nat.le_of_ble_eq_true rfl) (zq_r0 (by omega) (by omega) (by omega)) ?_
        refine zc_accept ?_
        refine at_iret dX11_back_53 rfl (by omega) (by omega) ?_
        exact hp
      · omega
theorem zk_back {v : Int32} (hD : 88 ≤ D) (h : zIV n κ σ ρ K m hn t z Ls Λ) : zCase l G D 0 0 yX11_back yX12_back [.int v] n κ σ ρ := by
  by_cases v0 : v = nI 0
  · exact zk_back1 (by decide) v0 hD h h.2.2.2.2.2.2.2.1
  · by_cases v1 : v = nI 1
    · exact zk_back1 (by decide) v1 hD h h.2.2.2.2.2.2.2.2.1
    · intro P1 h1
      have hl := zlies_01 v0 v1
      have hp := h1 (.int (-(nI 1))) n (zl_h (zlref κ 1) (zm_h σ ρ)) (by exact ⟨rfl, _, rfl⟩) (fun P2 h2 => by
        rw [zlm]
        refine zm_back (al := fun _ => 0) (by omega) (fun _ => ?_) (fun b hb eb _ => ?_) (fun b hb eb f => ?_) (fun b hb eb f => ?_)
        · rw [← zlm]
          exact h2 _ _ _ _ (zfin (zIV_ref h (by omega)))
        all_goals
          rcases (show b = 0 ∨ b = 1 by omega) with rfl | rfl
          · exact absurd eb v0
          · exact absurd eb v1)
      refine zq_enter (cc := cX11_back) (nL := 3) (ret := (some .int)) cw_X11_back (by decide) rfl (Nat.le_of_ble_eq_true rfl) ?_
      refine at_iload_n dX11_back_0 rfl ?_
      refine at_if_eq (tgt := 15) dX11_back_1 (by decide) (fun c1 => ?_) (fun c1 => ?_)
      · exact absurd c1 v0
      · refine at_iload_n dX11_back_4 rfl ?_
        refine at_iconst dX11_back_5 (v := nI 1) (by decide) ?_
        refine at_icmp_eq (tgt := 15) dX11_back_6 (by decide) (fun c6 => ?_) (fun c6 => ?_)
        · exact absurd c6 v1
        · refine at_aload_n dX11_back_9 rfl ?_
          refine at_iconst dX11_back_10 (v := -1) rfl ?_
          refine at_callV1 (d := D - 1) dX11_back_11 mv_X11_103 (zl_o rfl) (Nat.le_of_ble_eq_true rfl) (zq_r0 (by omega) (by omega) (by omega)) ?_
          refine zc_refuse (q := 1) (by omega) ?_
          refine at_iret dX11_back_14 rfl (by omega) (by omega) ?_
          exact hp
end ZK19

