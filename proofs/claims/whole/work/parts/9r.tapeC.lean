/-! ===== the class: the tape is fed ===== -/
theorem dX11_feed_0 : decode cX11_feed 0 = .ok (.aload_n 0, 1) := by decide +kernel
theorem dX11_feed_1 : decode cX11_feed 1 = .ok (.getfield 40, 3) := by decide +kernel
theorem dX11_feed_4 : decode cX11_feed 4 = .ok (.sipush 380, 3) := by decide +kernel
theorem dX11_feed_7 : decode cX11_feed 7 = .ok (.if_icmp .le 5, 3) := by decide +kernel
theorem dX11_feed_10 : decode cX11_feed 10 = .ok (.iconst (-1), 1) := by decide +kernel
theorem dX11_feed_11 : decode cX11_feed 11 = .ok (.ireturn, 1) := by decide +kernel
theorem dX11_feed_12 : decode cX11_feed 12 = .ok (.aload_n 0, 1) := by decide +kernel
theorem dX11_feed_13 : decode cX11_feed 13 = .ok (.iload_n 1, 1) := by decide +kernel
theorem dX11_feed_14 : decode cX11_feed 14 = .ok (.invokevirtual 175, 3) := by decide +kernel
theorem dX11_feed_17 : decode cX11_feed 17 = .ok (.aload_n 0, 1) := by decide +kernel
theorem dX11_feed_18 : decode cX11_feed 18 = .ok (.iload_n 2, 1) := by decide +kernel
theorem dX11_feed_19 : decode cX11_feed 19 = .ok (.invokevirtual 175, 3) := by decide +kernel
theorem dX11_feed_22 : decode cX11_feed 22 = .ok (.aload_n 0, 1) := by decide +kernel
theorem dX11_feed_23 : decode cX11_feed 23 = .ok (.iload_n 3, 1) := by decide +kernel
theorem dX11_feed_24 : decode cX11_feed 24 = .ok (.invokevirtual 175, 3) := by decide +kernel
theorem dX11_feed_27 : decode cX11_feed 27 = .ok (.aload_n 0, 1) := by decide +kernel
theorem dX11_feed_28 : decode cX11_feed 28 = .ok (.iload 4, 2) := by decide +kernel
theorem dX11_feed_30 : decode cX11_feed 30 = .ok (.invokevirtual 175, 3) := by decide +kernel
theorem dX11_feed_33 : decode cX11_feed 33 = .ok (.aload_n 0, 1) := by decide +kernel
theorem dX11_feed_34 : decode cX11_feed 34 = .ok (.iload 5, 2) := by decide +kernel
theorem dX11_feed_36 : decode cX11_feed 36 = .ok (.invokevirtual 175, 3) := by decide +kernel
theorem dX11_feed_39 : decode cX11_feed 39 = .ok (.aload_n 0, 1) := by decide +kernel
theorem dX11_feed_40 : decode cX11_feed 40 = .ok (.getfield 40, 3) := by decide +kernel
theorem dX11_feed_43 : decode cX11_feed 43 = .ok (.ireturn, 1) := by decide +kernel
abbrev mX11_feed : zq_M := (cX11_feed, RX11, "feed", (some .int), 6)
theorem dX11_putFour_0 : decode cX11_putFour 0 = .ok (.bipush 24, 2) := by decide +kernel
theorem dX11_putFour_2 : decode cX11_putFour 2 = .ok (.istore_n 2, 1) := by decide +kernel
theorem dX11_putFour_3 : decode cX11_putFour 3 = .ok (.iload_n 2, 1) := by decide +kernel
theorem dX11_putFour_4 : decode cX11_putFour 4 = .ok (.ifCond .lt 45, 3) := by decide +kernel
theorem dX11_putFour_7 : decode cX11_putFour 7 = .ok (.aload_n 0, 1) := by decide +kernel
theorem dX11_putFour_8 : decode cX11_putFour 8 = .ok (.getfield 40, 3) := by decide +kernel
theorem dX11_putFour_11 : decode cX11_putFour 11 = .ok (.sipush 400, 3) := by decide +kernel
theorem dX11_putFour_14 : decode cX11_putFour 14 = .ok (.if_icmp .ge 35, 3) := by decide +kernel
theorem dX11_putFour_17 : decode cX11_putFour 17 = .ok (.aload_n 0, 1) := by decide +kernel
theorem dX11_putFour_18 : decode cX11_putFour 18 = .ok (.getfield 36, 3) := by decide +kernel
theorem dX11_putFour_21 : decode cX11_putFour 21 = .ok (.aload_n 0, 1) := by decide +kernel
theorem dX11_putFour_22 : decode cX11_putFour 22 = .ok (.getfield 40, 3) := by decide +kernel
theorem dX11_putFour_25 : decode cX11_putFour 25 = .ok (.iload_n 1, 1) := by decide +kernel
theorem dX11_putFour_26 : decode cX11_putFour 26 = .ok (.iload_n 2, 1) := by decide +kernel
theorem dX11_putFour_27 : decode cX11_putFour 27 = .ok (.iushr, 1) := by decide +kernel
theorem dX11_putFour_28 : decode cX11_putFour 28 = .ok (.sipush 255, 3) := by decide +kernel
theorem dX11_putFour_31 : decode cX11_putFour 31 = .ok (.iand, 1) := by decide +kernel
theorem dX11_putFour_32 : decode cX11_putFour 32 = .ok (.iastore, 1) := by decide +kernel
theorem dX11_putFour_33 : decode cX11_putFour 33 = .ok (.aload_n 0, 1) := by decide +kernel
theorem dX11_putFour_34 : decode cX11_putFour 34 = .ok (.dup, 1) := by decide +kernel
theorem dX11_putFour_35 : decode cX11_putFour 35 = .ok (.getfield 40, 3) := by decide +kernel
theorem dX11_putFour_38 : decode cX11_putFour 38 = .ok (.iconst 1, 1) := by decide +kernel
theorem dX11_putFour_39 : decode cX11_putFour 39 = .ok (.iadd, 1) := by decide +kernel
theorem dX11_putFour_40 : decode cX11_putFour 40 = .ok (.putfield 40, 3) := by decide +kernel
theorem dX11_putFour_43 : decode cX11_putFour 43 = .ok (.iinc 2 (-8), 3) := by decide +kernel
theorem dX11_putFour_46 : decode cX11_putFour 46 = .ok (.goto (-43), 3) := by decide +kernel
theorem dX11_putFour_49 : decode cX11_putFour 49 = .ok (.return_, 1) := by decide +kernel
abbrev mX11_putFour : zq_M := (cX11_putFour, RX11, "putFour", none, 3)
/-- a number's byte, the highest first -/
def zub (v : Int32) (k : Nat) : Nat := (v.toUInt32 >>> ((nI (24 - 8 * k)).toUInt32 &&& Int32.toUInt32 31)).toInt32.toBitVec.toNat % 256
theorem zshr8 (v : BitVec 32) {s : Nat} (hs : s ≤ 24) : (v.sshiftRight s).setWidth 8 = (v >>> s).setWidth 8 := by
  apply BitVec.eq_of_getLsbD_eq
  intro i hi
  rw [BitVec.getLsbD_setWidth, BitVec.getLsbD_setWidth, BitVec.getLsbD_sshiftRight, BitVec.getLsbD_ushiftRight]
  have h1 : decide (i < 8) = true := decide_eq_true hi
  have h2 : decide (32 ≤ i) = false := decide_eq_false (by omega)
  have h3 : s + i < 32 := by omega
  simp [h1, h2, h3]
theorem zub_lt (v : Int32) (k : Nat) : zub v k < 256 := Nat.mod_lt _ (by decide)
theorem zI8k (u w : Int32) (h : u.toBitVec.setWidth 8 = w.toBitVec.setWidth 8) : u.toInt8 = w.toInt8 := by
  apply Int8.toBitVec_inj.mp
  rw [Int32.toBitVec_toInt8, Int32.toBitVec_toInt8, BitVec.signExtend_eq_setWidth_of_le _ (by decide), BitVec.signExtend_eq_setWidth_of_le _ (by decide)]
  exact h
theorem zI8 {x : Nat} {u : Int32} (h : x = u.toBitVec.toNat % 256) : (nI x).toInt8 = u.toInt8 := by
  refine zI8k _ _ (BitVec.eq_of_toNat_eq ?_)
  rw [BitVec.toNat_setWidth, BitVec.toNat_setWidth, h]
  have hx : u.toBitVec.toNat % 256 < 256 := Nat.mod_lt _ (by decide)
  rw [show (nI (u.toBitVec.toNat % 256)).toBitVec.toNat = u.toBitVec.toNat % 256 from by
    show (u.toBitVec.toNat % 256) % 2 ^ 32 = _
    omega]
  omega
theorem zub_by (v : Int32) {k : Nat} (hk : k < 4) : (nI (zub v k)).toInt8.toInt32 = (v >>> (nI (24 - 8 * k) &&& 31)).toInt8.toInt32 := by
  have e := zI8 (x := zub v k) (u := (v.toUInt32 >>> ((nI (24 - 8 * k)).toUInt32 &&& Int32.toUInt32 31)).toInt32) rfl
  rw [e]
  congr 1
  apply zI8k
  rcases (show k = 0 ∨ k = 1 ∨ k = 2 ∨ k = 3 by omega) with rfl | rfl | rfl | rfl
  · exact (zshr8 v.toBitVec (s := 24) (by decide)).symm
  · exact (zshr8 v.toBitVec (s := 16) (by decide)).symm
  · exact (zshr8 v.toBitVec (s := 8) (by decide)).symm
  · exact (zshr8 v.toBitVec (s := 0) (by decide)).symm
theorem zsi2_2 (κ : zl_S) (o k : Nat) (v w : Int32) : zl_si (zl_si κ o k v) o k w = zl_si κ o k w := by
  refine Prod.ext ?_ rfl
  funext p j
  by_cases e : p = o
  · subst e
    by_cases g : j = k
    · subst g; rw [zsi2_s, zsi2_s]
    · rw [zsi2_k _ _ g, zsi2_k _ _ g, zsi2_k _ _ g]
  · rw [zsi2_o _ e, zsi2_o _ e, zsi2_o _ e]
theorem zsi2_0 (κ : zl_S) (o k : Nat) : zl_si κ o k (κ.1 o k) = κ := by
  refine Prod.ext ?_ rfl
  funext p j
  by_cases e : p = o
  · subst e
    by_cases g : j = k
    · subst g; rw [zsi2_s]
    · rw [zsi2_k _ _ g]
  · rw [zsi2_o _ e]
section ZK15
variable {l : Launch} {G : zq_G} {D n b : Nat} {κ κ' : zl_S} {σ τ : zm_S} {ρ : Nat → zq_E} {K K' : Nat → Int32} {m hn t z : Nat} {Ls : Nat → List zLC} {Λ Λ' : List Nat} {Lo : Option (List zLC)} {post : Option Value → Nat → (Nat → zq_E) → Prop}
theorem zc_pf_loop {v : Int32} (hz : z + 4 ≤ 400) (hp : ∀ U, (∀ j, j < z → U j = κ.2.1 47 j) → (∀ k, k < 4 → U (z + k) = nI (zub v k)) → post none n (zl_h (zl_si (zl_sA κ 47 U) 8 7 (nI (z + 4))) ρ)) :
    ∀ f k U, k + f = 4 → (∀ j, j < z → U j = κ.2.1 47 j) → (∀ i, i < k → U (z + i) = nI (zub v i)) → zq_At l G (zq_rm D 0 0) mX11_putFour (zq_QF G post 0 0) 3 [(0, .ref 8), (1, .int v), (2, .int (if k < 4 then nI (24 - 8 * k) else -8))] [] n (zl_h (zl_si (zl_sA κ 47 U) 8 7 (nI (z + k))) ρ) 0 0 := by
  intro f
  induction f with
  | zero =>
    intro k U hk h1 h2
    obtain rfl : k = 4 := hk
    have hp := hp U h1 h2
    rw [if_neg (by decide)]
    refine at_iload_n dX11_putFour_3 rfl ?_
    refine at_if_lt (tgt := 49) dX11_putFour_4 (by decide) (fun c4 => ?_) (fun c4 => ?_)
    · refine at_vret dX11_putFour_49 rfl (by omega) (by omega) ?_
      exact hp
    · exact absurd (by decide) c4
  | succ f ih =>
    intro k U hk h1 h2
    have hk4 : k < 4 := by omega
    rw [if_pos hk4]
    have e7 : ∀ U', (zl_si (zl_sA κ 47 U') 8 7 (nI (z + k))).1 8 7 = nI (z + k) := fun U' => zsi2_s _ _ _ _
    have hn := ih (k + 1) (upd U (z + k) (nI (zub v k))) (by omega) (fun j hj => by rw [upd_o _ (by omega)]; exact h1 j hj) (fun i hi => by
      by_cases e : i = k
      · rw [e, upd_s]
      · rw [upd_o _ (by omega)]; exact h2 i (by omega))
    have hst : zl_si (zl_sa (zl_si (zl_sA κ 47 U) 8 7 (nI (z + k))) 47 (z + k) (nI (zub v k))) 8 7 (nI (z + k + 1)) = zl_si (zl_sA κ 47 (upd U (z + k) (nI (zub v k)))) 8 7 (nI (z + (k + 1))) := by
      rw [show zl_sa (zl_si (zl_sA κ 47 U) 8 7 (nI (z + k))) 47 (z + k) (nI (zub v k)) = zl_si (zl_sa (zl_sA κ 47 U) 47 (z + k) (nI (zub v k))) 8 7 (nI (z + k)) from rfl, zlA_a, zsi2_2]
      rfl
    have h24 : (if k + 1 < 4 then nI (24 - 8 * (k + 1)) else -8) = nI (24 - 8 * k) + (-8) := by
      rcases (show k = 0 ∨ k = 1 ∨ k = 2 ∨ k = 3 by omega) with rfl | rfl | rfl | rfl <;> rfl
    have hand : (v.toUInt32 >>> ((nI (24 - 8 * k)).toUInt32 &&& Int32.toUInt32 31)).toInt32 &&& nI 255 = nI (zub v k) := pk_and _ 8 (by decide)
    rw [h24] at hn
    refine at_iload_n dX11_putFour_3 rfl ?_
    refine at_if_ltN (tgt := 49) dX11_putFour_4 (by decide) (by omega) (fun c4 => ?_) (fun c4 => ?_)
    · exact c4.elim
    · refine at_aload_n dX11_putFour_7 rfl ?_
      refine at_get dX11_putFour_8 fl_X11_40 (zl_o rfl) rfl ?_
      rw [e7]
      refine at_sipush dX11_putFour_11 (v := nI 400) (by decide) ?_
      refine at_geN (tgt := 49) dX11_putFour_14 (by decide) (by omega) (by omega) (fun c14 => ?_) (fun c14 => ?_)
      · omega
      · refine at_aload_n dX11_putFour_17 rfl ?_
        refine at_get dX11_putFour_18 fl_X11_36 (zl_o rfl) rfl ?_
        refine at_aload_n dX11_putFour_21 rfl ?_
        refine at_get dX11_putFour_22 fl_X11_40 (zl_o rfl) rfl ?_
        rw [e7]
        refine at_iload_n dX11_putFour_25 rfl ?_
        refine at_iload_n dX11_putFour_26 rfl ?_
        refine at_iushr dX11_putFour_27 rfl ?_
        refine at_sipush dX11_putFour_28 (v := nI 255) (by decide) ?_
        refine at_iand dX11_putFour_31 ?_
        rw [hand]
        refine at_last2 (a := 47) dX11_putFour_32 rfl rfl (by show _ < 400; omega) (by decide) ?_
        refine at_aload_n dX11_putFour_33 rfl ?_
        refine at_dup dX11_putFour_34 rfl ?_
        refine at_get dX11_putFour_35 fl_X11_40 (zl_o rfl) rfl ?_
        rw [show (zl_sa (zl_si (zl_sA κ 47 U) 8 7 (nI (z + k))) 47 (z + k) (nI (zub v k))).1 8 7 = nI (z + k) from e7 U]
        refine at_iconst dX11_putFour_38 (v := nI 1) (by decide) ?_
        refine at_iaddN dX11_putFour_39 ?_
        refine at_lput dX11_putFour_40 (pl_X11_40 _) (fun i => ⟨_, rfl, Nat.le_of_ble_eq_true rfl, fun v => rfl⟩) rfl rfl ?_
        rw [hst]
        refine at_iinc dX11_putFour_43 rfl rfl (by decide) ?_
        refine at_goto (tgt := 3) dX11_putFour_46 (by decide) ?_
        exact at_lv [0, 1, 2] hn
theorem zc_putFour {v : Int32} (h7 : κ.1 8 7 = nI z) (hz : z + 4 ≤ 400) (hp : ∀ U, (∀ j, j < z → U j = κ.2.1 47 j) → (∀ k, k < 4 → U (z + k) = nI (zub v k)) → post none n (zl_h (zl_si (zl_sA κ 47 U) 8 7 (nI (z + 4))) ρ)) : zq_Runs l G D 0 0 yX11_putFour [.ref 8, .int v] n (zl_h κ ρ) post := by
  have hl := zc_pf_loop (l := l) (G := G) (D := D) (n := n) (ρ := ρ) (post := post) (v := v) hz hp 4 0 (κ.2.1 47) rfl (fun _ _ => rfl) (fun i hi => absurd hi (Nat.not_lt_zero _))
  rw [zlA_0, Nat.add_zero, show zl_si κ 8 7 (nI z) = κ from by rw [← h7]; exact zsi2_0 κ 8 7, if_pos (by decide)] at hl
  refine zq_enter (cc := cX11_putFour) (nL := 3) (ret := none) cw_X11_putFour (by decide) rfl (Nat.le_of_ble_eq_true rfl) ?_
  refine at_bipush dX11_putFour_0 (v := nI 24) (by decide) ?_
  refine at_istore_n dX11_putFour_2 rfl (by decide) ?_
  exact hl
/-- the tapes change -/
theorem zIV_tp {z' : Nat} {U T F : Nat → Int32} (h : zIV n κ σ ρ K m hn t z Ls Λ) (hz' : z' ≤ 400) (hT : zTp T U z') : zIV n (zl_si (zl_sA κ 47 U) 8 7 (nI z')) (zm_si (zsA (zsA σ 79 F) 78 T) 14 (nI z')) ρ K m hn t z' Ls Λ := by
  obtain ⟨⟨a1, a2, a3, a4⟩, b1, c1, d1, e1, f1, g1, i1⟩ := h
  have k1 : ∀ o, o ≠ 8 → (zl_si (zl_sA κ 47 U) 8 7 (nI z')).1 o = κ.1 o := fun o ho => zsi2_o _ ho _ _
  have k8 : ∀ j, j ≠ 7 → (zl_si (zl_sA κ 47 U) 8 7 (nI z')).1 8 j = κ.1 8 j := fun j hj => zsi2_k _ 8 hj _
  have k2 : ∀ a, a ≠ 47 → (zl_si (zl_sA κ 47 U) 8 7 (nI z')).2.1 a = κ.2.1 a := fun a ha => zlA_o _ ha _
  have s1 : ∀ k, k ≠ 14 → (zm_si (zsA (zsA σ 79 F) 78 T) 14 (nI z')).1 k = σ.1 k := fun k hk => zsi_o _ hk _
  have s2 : ∀ a, a ≠ 78 → a ≠ 79 → (zm_si (zsA (zsA σ 79 F) 78 T) 14 (nI z')).2.1 a = σ.2.1 a := fun a h1 h2 => (zsA_o _ h1 _).trans (zsA_o _ h2 _)
  refine ⟨⟨a1, by rw [k2 57 (by decide)]; exact a2, by rw [s2 72 (by decide) (by decide)]; exact a3, fun y h1 h5 => by rw [s2 76 (by decide) (by decide)]; exact a4 y h1 h5⟩, b1, zQc_f c1 (k1 9 (by decide)) (fun c h1 h9 => k2 _ (by omega)) rfl, ?_, ?_, ?_, ?_, ?_⟩
  · unfold zLG at d1 ⊢
    rw [k1 43 (by decide), k2 44 (by decide), s1 44 (by decide), s2 94 (by decide) (by decide)]
    exact d1
  · refine ⟨zsi_s _ _ _, hz', zsi2_s _ _ _ _, ?_, ?_⟩
    · rw [show (zm_si (zsA (zsA σ 79 F) 78 T) 14 (nI z')).2.1 78 = T from zsA_s _ _ _, show (zl_si (zl_sA κ 47 U) 8 7 (nI z')).2.1 47 = U from zlA_s _ _ _]
      exact hT
    · unfold zWr
      rw [s2 77 (by decide) (by decide)]
      exact e1.2.2.2.2
  · unfold zST at f1 ⊢
    rw [k8 18 (by decide), k8 15 (by decide), k8 16 (by decide), k8 17 (by decide), k2 69 (by decide), s1 0 (by decide), s1 15 (by decide), s1 45 (by decide), s1 7 (by decide), s2 71 (by decide) (by decide)]
    exact f1
  · unfold zPP at g1 ⊢
    rw [k1 32 (by decide), k2 33 (by decide), k2 35 (by decide), s1 53 (by decide), s2 97 (by decide) (by decide)]
    exact g1
  · unfold zIM zI1 at i1 ⊢
    rw [show (zl_si (zl_sA κ 47 U) 8 7 (nI z')).2.2 = κ.2.2 from rfl, s2 73 (by decide) (by decide), s2 74 (by decide) (by decide)]
    exact i1
theorem zTp_le {T U : Nat → Int32} {z' : Nat} (h : zTp T U z) (hz : z' ≤ z) : zTp T U z' := fun j hj => h j (by omega)
theorem zk_end {v : Int32} (hD : 88 ≤ D) (h : zIV n κ σ ρ K m hn t z Ls Λ) : zCase l G D 0 0 yX11_end yX12_end [.int v] n κ σ ρ := by
  intro P1 h1
  obtain ⟨t1, t2, t3, t4, t5⟩ := h.2.2.2.2.1
  cases e : decide (nI 0 ≤ v) && decide (v ≤ nI z) with
  | false =>
    have hp := h1 (.int (-1)) n (zl_h κ (zm_h σ ρ)) (by exact ⟨rfl, _, rfl⟩) (fun P2 h2 => by
      rw [zlm]
      refine zm_end (by omega) t1 (fun _ => ?_) (fun f => ?_)
      · rw [← zlm]
        exact h2 _ _ _ _ (zfin h)
      · rw [e] at f; cases f)
    have hge : ¬ v < 0 → ¬ nI z < v → False := fun a b => by
      rw [decide_eq_true (show nI 0 ≤ v from Int32.not_lt.mp a), decide_eq_true (Int32.not_lt.mp b)] at e; cases e
    refine zq_enter (cc := cX11_end) (nL := 2) (ret := (some .int)) cw_X11_end (by decide) rfl (Nat.le_of_ble_eq_true rfl) ?_
    refine at_iload_n dX11_end_0 rfl ?_
    refine at_if_lt (tgt := 12) dX11_end_1 (by decide) (fun c1 => ?_) (fun c1 => ?_)
    · refine at_iconst dX11_end_12 (v := -1) rfl ?_
      refine at_iret dX11_end_13 rfl (by omega) (by omega) ?_
      exact hp
    · refine at_iload_n dX11_end_4 rfl ?_
      refine at_aload_n dX11_end_5 rfl ?_
      refine at_get dX11_end_6 fl_X11_40 (zl_o rfl) rfl ?_
      rw [t3]
      refine at_icmp_le (tgt := 14) dX11_end_9 (by decide) (fun c9 => ?_) (fun c9 => ?_)
      · exact (hge c1 (Int32.not_lt.mpr c9)).elim
      · refine at_iconst dX11_end_12 (v := -1) rfl ?_
        refine at_iret dX11_end_13 rfl (by omega) (by omega) ?_
        exact hp
  | true =>
    obtain ⟨x, x0, xz, rfl⟩ := zlies_n (by decide) (by omega) e
    have hp := h1 (.int (nI x)) n (zl_h (zl_si κ 8 7 (nI x)) (zm_h σ ρ)) (by exact ⟨rfl, _, rfl⟩) (fun P2 h2 => by
      rw [zlm]
      refine zm_end (by omega) t1 (fun f => ?_) (fun _ => ?_)
      · rw [e] at f; cases f
      · have hiv := zIV_tp (U := κ.2.1 47) (T := σ.2.1 78) (F := σ.2.1 79) h (show x ≤ 400 by omega) (zTp_le t4 xz)
        rw [zlA_0, zsA_0, zsA_0] at hiv
        rw [← zlm]
        exact h2 _ _ _ _ (zfin hiv))
    refine zq_enter (cc := cX11_end) (nL := 2) (ret := (some .int)) cw_X11_end (by decide) rfl (Nat.le_of_ble_eq_true rfl) ?_
    refine at_iload_n dX11_end_0 rfl ?_
    refine at_if_ltN (tgt := 12) dX11_end_1 (by decide) (by omega) (fun c1 => ?_) (fun c1 => ?_)
    · exact c1.elim
    · refine at_iload_n dX11_end_4 rfl ?_
      refine at_aload_n dX11_end_5 rfl ?_
      refine at_get dX11_end_6 fl_X11_40 (zl_o rfl) rfl ?_
      rw [t3]
      refine at_leN (tgt := 14) dX11_end_9 (by decide) (by omega) (by omega) (fun c9 => ?_) (fun c9 => ?_)
      · refine at_aload_n dX11_end_14 rfl ?_
        refine at_iload_n dX11_end_15 rfl ?_
        refine at_lput dX11_end_16 (pl_X11_40 _) (fun i => ⟨_, rfl, Nat.le_of_ble_eq_true rfl, fun v => rfl⟩) rfl rfl ?_
        refine at_iload_n dX11_end_19 rfl ?_
        refine at_iret dX11_end_20 rfl (by omega) (by omega) ?_
        exact hp
      · omega
end ZK15

