/-! ===== the class: the order of a quay's row ===== -/
/-- a person more -/
def zuS (κ : zl_S) (b p : Nat) : Nat → zl_S
  | 0 => κ
  | k + 1 => zl_sa (zuS κ b p k) (b + 4) (5 * p + (k + 1) - 1) (nI (k + 1))
def zuA (κ : zl_S) (b m : Nat) (v : Int32) : zl_S := zuS (zl_sa (zl_sa (zl_sa (zl_si κ b 0 (nI (m + 1))) (b + 1) m v) (b + 2) m (nI m)) (b + 3) m (nI m)) b m 5
theorem zuS_1 (κ : zl_S) (b p : Nat) : ∀ k, (zuS κ b p k).1 = κ.1
  | 0 => rfl
  | k + 1 => zuS_1 κ b p k
theorem kc_J6_265 : Cond.constant RJ6 265 1431655765 ∈ zq_ws := zq_in (zq_t4 (List.mem_of_getElem? (i := 148) rfl)) rfl
theorem kc_J6_266 : Cond.constant RJ6 266 858993459 ∈ zq_ws := zq_in (zq_t4 (List.mem_of_getElem? (i := 149) rfl)) rfl
theorem kc_J6_267 : Cond.constant RJ6 267 252645135 ∈ zq_ws := zq_in (zq_t4 (List.mem_of_getElem? (i := 150) rfl)) rfl
def zus (x y : Int32) : Int32 := (x.toUInt32 >>> (y.toUInt32 &&& Int32.toUInt32 31)).toInt32
def zb1 (x : Int32) : Int32 := x - (zus x (nI 1) &&& 1431655765)
def zb2 (x : Int32) : Int32 := (x &&& 858993459) + (zus x (nI 2) &&& 858993459)
def zb3 (x : Int32) : Int32 := (x + zus x (nI 4)) &&& 252645135
def zb4 (x : Int32) : Int32 := x + zus x (nI 8)
def zb5 (x : Int32) : Int32 := x + zus x (nI 16)
def zbc (x : Int32) : Int32 := zb5 (zb4 (zb3 (zb2 (zb1 x)))) &&& nI 63
theorem zbc_all : (List.range 128).all (fun s => decide (zbc (nI s) = nI (zpop s 7))) = true := by decide +kernel
theorem zbc_n {s : Nat} (h : s < 128) : zbc (nI s) = nI (zpop s 7) := of_decide_eq_true (List.all_eq_true.mp zbc_all s (List.mem_range.mpr h))
theorem zc_bitCount {l : Launch} {G : zq_G} {D n s : Nat} {f : Nat → zq_E} {post : Option Value → Nat → (Nat → zq_E) → Prop} (hs : s < 128) (hp : post (some (.int (nI (zpop s 7)))) n f) : zq_Runs l G D 0 0 yJ6_bitCount_0f7a4 [.int (nI s)] n f post := by
  rw [← zbc_n hs] at hp
  refine zq_enter (cc := cJ6_bitCount_0f7a4) (nL := 1) (ret := (some .int)) cw_J6_bitCount_0f7a4 (by decide) rfl (Nat.le_of_ble_eq_true rfl) ?_
  refine at_iload_n dJ6_bitCount_0f7a4_0 rfl ?_
  refine at_iload_n dJ6_bitCount_0f7a4_1 rfl ?_
  refine at_iconst dJ6_bitCount_0f7a4_2 (v := nI 1) (by decide) ?_
  refine at_iushr dJ6_bitCount_0f7a4_3 rfl ?_
  refine at_ldcw dJ6_bitCount_0f7a4_4 (v := 1431655765) kc_J6_265 ?_
  refine at_iand dJ6_bitCount_0f7a4_7 ?_
  refine at_isub dJ6_bitCount_0f7a4_8 ?_
  refine at_istore_n dJ6_bitCount_0f7a4_9 rfl (by decide) ?_
  refine at_iload_n dJ6_bitCount_0f7a4_10 rfl ?_
  refine at_ldcw dJ6_bitCount_0f7a4_11 (v := 858993459) kc_J6_266 ?_
  refine at_iand dJ6_bitCount_0f7a4_14 ?_
  refine at_iload_n dJ6_bitCount_0f7a4_15 rfl ?_
  refine at_iconst dJ6_bitCount_0f7a4_16 (v := nI 2) (by decide) ?_
  refine at_iushr dJ6_bitCount_0f7a4_17 rfl ?_
  refine at_ldcw dJ6_bitCount_0f7a4_18 (v := 858993459) kc_J6_266 ?_
  refine at_iand dJ6_bitCount_0f7a4_21 ?_
  refine at_iadd dJ6_bitCount_0f7a4_22 ?_
  refine at_istore_n dJ6_bitCount_0f7a4_23 rfl (by decide) ?_
  refine at_iload_n dJ6_bitCount_0f7a4_24 rfl ?_
  refine at_iload_n dJ6_bitCount_0f7a4_25 rfl ?_
  refine at_iconst dJ6_bitCount_0f7a4_26 (v := nI 4) (by decide) ?_
  refine at_iushr dJ6_bitCount_0f7a4_27 rfl ?_
  refine at_iadd dJ6_bitCount_0f7a4_28 ?_
  refine at_ldcw dJ6_bitCount_0f7a4_29 (v := 252645135) kc_J6_267 ?_
  refine at_iand dJ6_bitCount_0f7a4_32 ?_
  refine at_istore_n dJ6_bitCount_0f7a4_33 rfl (by decide) ?_
  refine at_iload_n dJ6_bitCount_0f7a4_34 rfl ?_
  refine at_iload_n dJ6_bitCount_0f7a4_35 rfl ?_
  refine at_bipush dJ6_bitCount_0f7a4_36 (v := nI 8) (by decide) ?_
  refine at_iushr dJ6_bitCount_0f7a4_38 rfl ?_
  refine at_iadd dJ6_bitCount_0f7a4_39 ?_
  refine at_istore_n dJ6_bitCount_0f7a4_40 rfl (by decide) ?_
  refine at_iload_n dJ6_bitCount_0f7a4_41 rfl ?_
  refine at_iload_n dJ6_bitCount_0f7a4_42 rfl ?_
  refine at_bipush dJ6_bitCount_0f7a4_43 (v := nI 16) (by decide) ?_
  refine at_iushr dJ6_bitCount_0f7a4_45 rfl ?_
  refine at_iadd dJ6_bitCount_0f7a4_46 ?_
  refine at_istore_n dJ6_bitCount_0f7a4_47 rfl (by decide) ?_
  refine at_iload_n dJ6_bitCount_0f7a4_48 rfl ?_
  refine at_bipush dJ6_bitCount_0f7a4_49 (v := nI 63) (by decide) ?_
  refine at_iand dJ6_bitCount_0f7a4_51 ?_
  refine at_iret dJ6_bitCount_0f7a4_52 rfl (by omega) (by omega) ?_
  exact hp
section ZC3
variable {l : Launch} {G : zq_G} {D n b m t : Nat} {κ : zl_S} {ρ : Nat → zq_E} {post : Option Value → Nat → (Nat → zq_E) → Prop} {x w rk al : Nat → Nat} {sd : Nat → Nat → Nat}
theorem zc_add {v : Int32} (hD : 2 ≤ D) (hb : zQb b) (hm : κ.1 b 0 = nI m) (hm7 : m < 7) (hp : post (some (.int (nI m))) n (zl_h (zuA κ b m v) ρ)) : zq_Runs l G D 0 0 yX7_add [.ref b, .int v] n (zl_h κ ρ) post := by
  have loop : ∀ (κ' : zl_S), κ'.1 b 0 = nI (m + 1) → post (some (.int (nI m))) n (zl_h (zuS κ' b m 5) ρ) → ∀ f k, k + f = 5 → zq_At l G (zq_rm D 0 0) mX7_add (zq_QF G post 0 0) 47 [(0, .ref b), (1, .int v), (2, .int (nI m)), (3, .int (nI (k + 1)))] [] n (zl_h (zuS κ' b m k) ρ) 0 0 := by
    intro κ' h0 hp f
    induction f with
    | zero =>
      intro k hk
      obtain rfl : k = 5 := hk
      refine at_iload_n dX7_add_47 rfl ?_
      refine at_iconst dX7_add_48 (v := nI 5) (by decide) ?_
      refine at_gtN (tgt := 65) dX7_add_49 (by decide) (by omega) (by omega) (fun c49 => ?_) (fun c49 => ?_)
      · refine at_iload_n dX7_add_65 rfl ?_
        refine at_iret dX7_add_66 rfl (by omega) (by omega) ?_
        exact hp
      · omega
    | succ f ih =>
      intro k hk
      have hn := ih (k + 1) (by omega)
      refine at_iload_n dX7_add_47 rfl ?_
      refine at_iconst dX7_add_48 (v := nI 5) (by decide) ?_
      refine at_gtN (tgt := 65) dX7_add_49 (by decide) (by omega) (by omega) (fun c49 => ?_) (fun c49 => ?_)
      · omega
      · refine at_aload_n dX7_add_52 rfl ?_
        refine at_iload_n dX7_add_53 rfl ?_
        refine at_iload_n dX7_add_54 rfl ?_
        refine at_iload_n dX7_add_55 rfl ?_
        refine at_callV3 (d := D - 1) dX7_add_56 mv_X7_71 (zl_q hb) (Nat.le_of_ble_eq_true rfl) (zq_r0 (by omega) (by omega) (by omega)) ?_
        refine zc_teach (m := m + 1) (by omega) hb (by rw [zuS_1]; exact h0) (by omega) (by omega) (by omega) (by omega) ?_
        refine at_iincN dX7_add_59 rfl (by decide) ?_
        refine at_goto (tgt := 47) dX7_add_62 (by decide) ?_
        exact hn
  refine zq_enter (cc := cX7_add) (nL := 4) (ret := (some .int)) cw_X7_add (by decide) rfl (Nat.le_of_ble_eq_true rfl) ?_
  refine at_aload_n dX7_add_0 rfl ?_
  refine at_callV0 (d := D - 1) dX7_add_1 mv_X7_67 (zl_q hb) (Nat.le_of_ble_eq_true rfl) (zq_r0 (by omega) (by omega) (by omega)) ?_
  refine zc_hasRoom hb hm (by omega) ?_
  rw [decide_eq_true hm7]
  refine at_if_neB (tgt := 9) dX7_add_4 (by decide) (fun c4 => ?_) (fun c4 => ?_)
  · refine at_aload_n dX7_add_9 rfl ?_
    refine at_get dX7_add_10 fl_X7_9 (zl_q hb) rfl ?_
    rw [hm]
    refine at_istore_n dX7_add_13 rfl (by decide) ?_
    refine at_aload_n dX7_add_14 rfl ?_
    refine at_dup dX7_add_15 rfl ?_
    refine at_get dX7_add_16 fl_X7_9 (zl_q hb) rfl ?_
    rw [hm]
    refine at_iconst dX7_add_19 (v := nI 1) (by decide) ?_
    refine at_iaddN dX7_add_20 ?_
    refine at_lput dX7_add_21 (pl_X7_9 _) (zl_Iq hb (by decide)) rfl rfl ?_
    refine at_aload_n dX7_add_24 rfl ?_
    refine at_get dX7_add_25 fl_X7_15 (zl_q hb) rfl ?_
    refine at_iload_n dX7_add_28 rfl ?_
    refine at_iload_n dX7_add_29 rfl ?_
    refine at_ust (b := b) (c := 1) dX7_add_30 hb (by decide) (by decide) rfl (by show _ < 7; omega) ?_
    refine at_aload_n dX7_add_31 rfl ?_
    refine at_get dX7_add_32 fl_X7_19 (zl_q hb) rfl ?_
    refine at_iload_n dX7_add_35 rfl ?_
    refine at_iload_n dX7_add_36 rfl ?_
    refine at_ust (b := b) (c := 2) dX7_add_37 hb (by decide) (by decide) rfl (by show _ < 7; omega) ?_
    refine at_aload_n dX7_add_38 rfl ?_
    refine at_get dX7_add_39 fl_X7_22 (zl_q hb) rfl ?_
    refine at_iload_n dX7_add_42 rfl ?_
    refine at_iload_n dX7_add_43 rfl ?_
    refine at_ust (b := b) (c := 3) dX7_add_44 hb (by decide) (by decide) rfl (by show _ < 7; omega) ?_
    refine at_iconst dX7_add_45 (v := nI 1) (by decide) ?_
    refine at_istore_n dX7_add_46 rfl (by decide) ?_
    exact loop (zl_sa (zl_sa (zl_sa (zl_si κ b 0 (nI (m + 1))) (b + 1) m v) (b + 2) m (nI m)) (b + 3) m (nI m)) (zsi2_s κ b 0 _) hp 5 0 rfl
  · cases c4
theorem zc_addLaw {tx : Nat} {fs : List Value} (hb : zQb b) (ht : κ.1 b 11 = nI t) (ht6 : t < 6) (htx : ρ tx = .inr (10, fs)) (h70 : 70 ≤ tx) (hp : post (some (.int (nI t))) n (zl_h (zl_si (zl_sr κ (b + 10) t (some tx)) b 11 (nI (t + 1))) ρ)) : zq_Runs l G D 0 0 yX7_addLaw [.ref b, .ref tx] n (zl_h κ ρ) post := by
  obtain ⟨e1, e2⟩ := zn_in (i := nI t) (j := t) (N := 6) rfl ht6 (by decide)
  refine zq_enter (cc := cX7_addLaw) (nL := 3) (ret := (some .int)) cw_X7_addLaw (by decide) rfl (Nat.le_of_ble_eq_true rfl) ?_
  refine at_aload_n dX7_addLaw_0 rfl ?_
  refine at_get dX7_addLaw_1 fl_X7_46 (zl_q hb) rfl ?_
  rw [ht]
  refine at_istore_n dX7_addLaw_4 rfl (by decide) ?_
  refine at_iload_n dX7_addLaw_5 rfl ?_
  refine at_if_ltN (tgt := 32) dX7_addLaw_6 (by decide) (by omega) (fun c6 => ?_) (fun c6 => ?_)
  · exact c6.elim
  · refine at_iload_n dX7_addLaw_9 rfl ?_
    refine at_bipush dX7_addLaw_10 (v := nI 6) (by decide) ?_
    refine at_geN (tgt := 32) dX7_addLaw_12 (by decide) (by omega) (by omega) (fun c12 => ?_) (fun c12 => ?_)
    · omega
    · refine at_aload_n dX7_addLaw_15 rfl ?_
      refine at_get dX7_addLaw_16 fl_X7_51 (zl_q hb) rfl ?_
      refine at_iload_n dX7_addLaw_19 rfl ?_
      refine at_aload_n dX7_addLaw_20 rfl ?_
      refine at_aast (r := (RX10, TX10, 3)) dX7_addLaw_21 (zl_qt hb) (by decide) (fun _ => rfl) ((zl_hi κ ρ (Or.inr h70)).trans htx) rfl e1 ?_
      rw [e2, zl_up_r (zl_qr hb)]
      refine at_aload_n dX7_addLaw_22 rfl ?_
      refine at_dup dX7_addLaw_23 rfl ?_
      refine at_get dX7_addLaw_24 fl_X7_46 (zl_q hb) rfl ?_
      rw [show (zl_sr κ (b + 10) t (some tx)).1 b 11 = nI t from ht]
      refine at_iconst dX7_addLaw_27 (v := nI 1) (by decide) ?_
      refine at_iaddN dX7_addLaw_28 ?_
      refine at_lput dX7_addLaw_29 (pl_X7_46 _) (zl_Iq hb (by decide)) rfl rfl ?_
      refine at_iload_n dX7_addLaw_32 rfl ?_
      refine at_iret dX7_addLaw_33 rfl (by omega) (by omega) ?_
      exact hp
/-- the letters' places at a quay -/
def zQO (κ : zl_S) (b : Nat) (rk : Nat → Nat) : Prop := zOrd (κ.2.1 (b + 6)) rk ∧ (∀ y, 1 ≤ y → y ≤ 5 → rk y < 5) ∧ zri rk
theorem zdf_5 {a b : Nat} (ha : zvn a) (hb : zvn b) : zdf a b / 10 ≤ 5 ∧ zdf a b % 10 ≤ 5 := by
  have h5 : ∀ y k, zvn y → zdg4 y k ≤ 5 := fun y k hy => by
    unfold zdg4
    split
    · next h => exact (zvn_at hy h).2
    · omega
  have key : ∀ f k, zdfF a b f k / 10 ≤ 5 ∧ zdfF a b f k % 10 ≤ 5 := by
    intro f
    induction f with
    | zero => intro k; exact ⟨show 0 / 10 ≤ 5 by decide, show 0 % 10 ≤ 5 by decide⟩
    | succ f ih =>
      intro k
      unfold zdfF
      split
      · exact ih (k + 1)
      · have := h5 a k ha
        have := h5 b k hb
        omega
  exact key 4 0
theorem zc_isAhead {p q : Nat} (hD : 2 ≤ D) (hb : zQb b) (hO : zQO κ b rk) (hx : zvn p) (hy : zvn q) (hp : post (some (.int (zb (zah rk p q)))) n (zl_h κ ρ)) : zq_Runs l G D 0 0 yX7_isAhead [.ref b, .int (nI p), .int (nI q)] n (zl_h κ ρ) post := by
  have p1 := hx.1
  have p5 := hx.2.1
  have q1 := hy.1
  have q5 := hy.2.1
  have g := zdf_5 hx hy
  have gA := zl_qA (c := 6) hb (by decide) (by decide)
  rw [← zmt_df hO.2.2 hx hy] at hp
  refine zq_enter (cc := cX7_isAhead) (nL := 3) (ret := (some .boolean)) cw_X7_isAhead (by decide) rfl (Nat.le_of_ble_eq_true rfl) ?_
  refine at_iload_n dX7_isAhead_0 rfl ?_
  refine at_iload_n dX7_isAhead_1 rfl ?_
  refine at_callS2 (d := D - 1) dX7_isAhead_2 ms_X7_99 (Nat.le_of_ble_eq_true rfl) (zq_r0 (by omega) (by omega) (by omega)) ?_
  refine zc_differ (by omega) p1 (by omega) q1 (by omega) ?_
  refine at_aload_n dX7_isAhead_5 rfl ?_
  refine at_get dX7_isAhead_6 fl_X7_31 (zl_q hb) rfl ?_
  refine at_callS2 (d := D - 1) dX7_isAhead_9 ms_X7_103 (Nat.le_of_ble_eq_true rfl) (zq_r0 (by omega) (by omega) (by omega)) ?_
  refine zc_isMet gA.1 gA.2 hO.1 hO.2.1 g.1 g.2 ?_
  refine at_zret dX7_isAhead_12 rfl (by omega) (by omega) (zb_01 _) ?_
  exact hp
theorem zc_breakAt {i : Int32} (hD : 4 ≤ D) (hb : zQb b) (hQ : zQN κ b m x w) (hO : zQO κ b rk) (hp : post (some (.int (zfind (zbk rk x w) i (m - 1) 0 0))) n (zl_h κ ρ)) : zq_Runs l G D 0 0 yX7_breakAt [.ref b, .int i] n (zl_h κ ρ) post := by
  have hm7 := hQ.2.1
  have loop : ∀ f p c : Nat, p + f = m - 1 → post (some (.int (zfind (zbk rk x w) i f p c))) n (zl_h κ ρ) → zq_At l G (zq_rm D 0 0) mX7_breakAt (zq_QF G post 0 0) 4 [(0, .ref b), (1, .int i), (2, .int (nI c)), (3, .int (nI p))] [] n (zl_h κ ρ) 0 0 := by
    intro f
    induction f with
    | zero =>
      intro p c hpf hp
      unfold zfind at hp
      refine at_iload_n dX7_breakAt_4 rfl ?_
      refine at_iconst dX7_breakAt_5 (v := nI 1) (by decide) ?_
      refine at_iaddN dX7_breakAt_6 ?_
      refine at_aload_n dX7_breakAt_7 rfl ?_
      refine at_get dX7_breakAt_8 fl_X7_9 (zl_q hb) rfl ?_
      rw [hQ.1]
      refine at_geN (tgt := 49) dX7_breakAt_11 (by decide) (by omega) (by omega) (fun c11 => ?_) (fun c11 => ?_)
      · refine at_iload_n dX7_breakAt_49 rfl ?_
        refine at_iconst dX7_breakAt_50 (v := -1) rfl ?_
        refine at_icmp_ne (tgt := 58) dX7_breakAt_51 (by decide) (fun c51 => ?_) (fun c51 => ?_)
        · rw [if_neg c51] at hp
          refine at_iconst dX7_breakAt_58 (v := -1) rfl ?_
          refine at_iret dX7_breakAt_59 rfl (by omega) (by omega) ?_
          exact hp
        · rw [if_pos c51] at hp
          refine at_iload_n dX7_breakAt_54 rfl ?_
          refine at_goto (tgt := 59) dX7_breakAt_55 (by decide) ?_
          refine at_iret dX7_breakAt_59 rfl (by omega) (by omega) ?_
          exact hp
      · omega
    | succ f ih =>
      intro p c hpf hp
      unfold zfind at hp
      have g1 := (hQ.2.2.2 p (by omega)).2
      have g2 := (hQ.2.2.2 (p + 1) (by omega)).2
      refine at_iload_n dX7_breakAt_4 rfl ?_
      refine at_iconst dX7_breakAt_5 (v := nI 1) (by decide) ?_
      refine at_iaddN dX7_breakAt_6 ?_
      refine at_aload_n dX7_breakAt_7 rfl ?_
      refine at_get dX7_breakAt_8 fl_X7_9 (zl_q hb) rfl ?_
      rw [hQ.1]
      refine at_geN (tgt := 49) dX7_breakAt_11 (by decide) (by omega) (by omega) (fun c11 => ?_) (fun c11 => ?_)
      · omega
      · refine at_aload_n dX7_breakAt_14 rfl ?_
        refine at_aload_n dX7_breakAt_15 rfl ?_
        refine at_iload_n dX7_breakAt_16 rfl ?_
        refine at_iconst dX7_breakAt_17 (v := nI 1) (by decide) ?_
        refine at_iaddN dX7_breakAt_18 ?_
        refine at_callV1 (d := D - 1) dX7_breakAt_19 mv_X7_107 (zl_q hb) (Nat.le_of_ble_eq_true rfl) (zq_r0 (by omega) (by omega) (by omega)) ?_
        refine zc_nameAt (by omega) hb hQ (by omega) ?_
        refine at_aload_n dX7_breakAt_22 rfl ?_
        refine at_iload_n dX7_breakAt_23 rfl ?_
        refine at_callV1 (d := D - 1) dX7_breakAt_24 mv_X7_107 (zl_q hb) (Nat.le_of_ble_eq_true rfl) (zq_r0 (by omega) (by omega) (by omega)) ?_
        refine zc_nameAt (by omega) hb hQ (by omega) ?_
        refine at_callV2 (d := D - 1) dX7_breakAt_27 mv_X7_110 (zl_q hb) (Nat.le_of_ble_eq_true rfl) (zq_r0 (by omega) (by omega) (by omega)) ?_
        refine zc_isAhead (by omega) hb hO (hQ.2.2.1 _ g2).2 (hQ.2.2.1 _ g1).2 ?_
        refine at_if_eqB (tgt := 43) dX7_breakAt_30 (by decide) (fun c30 => ?_) (fun c30 => ?_)
        · rw [if_neg (by show ¬ zbk rk x w p = true; unfold zbk; rw [c30]; decide)] at hp
          have hn := ih (p + 1) c (by omega) hp
          refine at_iincN dX7_breakAt_43 rfl (by decide) ?_
          refine at_goto (tgt := 4) dX7_breakAt_46 (by decide) ?_
          exact hn
        · rw [if_pos (show zbk rk x w p = true from c30)] at hp
          refine at_iload_n dX7_breakAt_33 rfl ?_
          refine at_iload_n dX7_breakAt_34 rfl ?_
          refine at_icmp_ne (tgt := 40) dX7_breakAt_35 (by decide) (fun c35 => ?_) (fun c35 => ?_)
          · rw [if_neg c35] at hp
            have hn := ih (p + 1) (c + 1) (by omega) hp
            refine at_iincN dX7_breakAt_40 rfl (by decide) ?_
            refine at_iincN dX7_breakAt_43 rfl (by decide) ?_
            refine at_goto (tgt := 4) dX7_breakAt_46 (by decide) ?_
            exact hn
          · rw [if_pos c35] at hp
            refine at_iload_n dX7_breakAt_38 rfl ?_
            refine at_iret dX7_breakAt_39 rfl (by omega) (by omega) ?_
            exact hp
  refine zq_enter (cc := cX7_breakAt) (nL := 4) (ret := (some .int)) cw_X7_breakAt (by decide) rfl (Nat.le_of_ble_eq_true rfl) ?_
  refine at_iconst dX7_breakAt_0 (v := nI 0) (by decide) ?_
  refine at_istore_n dX7_breakAt_1 rfl (by decide) ?_
  refine at_iconst dX7_breakAt_2 (v := nI 0) (by decide) ?_
  refine at_istore_n dX7_breakAt_3 rfl (by decide) ?_
  exact loop (m - 1) 0 0 (Nat.zero_add _) hp
theorem zc_inversions (hD : 4 ≤ D) (hb : zQb b) (hQ : zQN κ b m x w) (hO : zQO κ b rk) (hp : post (some (.int (nI (zswO rk x w m m 0 0)))) n (zl_h κ ρ)) : zq_Runs l G D 0 0 yX7_inversions [.ref b] n (zl_h κ ρ) post := by
  have hm7 := hQ.2.1
  have inner : ∀ (a : Nat), a < m → ∀ (k e c : Nat), e + k = m → zq_At l G (zq_rm D 0 0) mX7_inversions (zq_QF G post 0 0) 55 [(0, .ref b), (1, .int (nI (zswI rk x w a k e c))), (2, .int (nI a))] [] n (zl_h κ ρ) 0 0 → zq_At l G (zq_rm D 0 0) mX7_inversions (zq_QF G post 0 0) 23 [(0, .ref b), (1, .int (nI c)), (2, .int (nI a)), (3, .int (nI (x (w a)))), (4, .int (nI e))] [] n (zl_h κ ρ) 0 0 := by
    intro a ha k
    have ga := (hQ.2.2.2 a ha).2
    induction k with
    | zero =>
      intro e c he hk
      obtain rfl : e = m := he
      refine at_iload dX7_inversions_23 rfl ?_
      refine at_aload_n dX7_inversions_25 rfl ?_
      refine at_get dX7_inversions_26 fl_X7_9 (zl_q hb) rfl ?_
      rw [hQ.1]
      refine at_geN (tgt := 55) dX7_inversions_29 (by decide) (by omega) (by omega) (fun c29 => ?_) (fun c29 => ?_)
      · exact at_lv [0, 1, 2] hk
      · omega
    | succ k ih =>
      intro e c he hk
      unfold zswI at hk
      have ge := (hQ.2.2.2 e (by omega)).2
      have hn := ih (e + 1) _ (by omega) hk
      refine at_iload dX7_inversions_23 rfl ?_
      refine at_aload_n dX7_inversions_25 rfl ?_
      refine at_get dX7_inversions_26 fl_X7_9 (zl_q hb) rfl ?_
      rw [hQ.1]
      refine at_geN (tgt := 55) dX7_inversions_29 (by decide) (by omega) (by omega) (fun c29 => ?_) (fun c29 => ?_)
      · omega
      · refine at_aload_n dX7_inversions_32 rfl ?_
        refine at_aload_n dX7_inversions_33 rfl ?_
        refine at_iload dX7_inversions_34 rfl ?_
        refine at_callV1 (d := D - 1) dX7_inversions_36 mv_X7_107 (zl_q hb) (Nat.le_of_ble_eq_true rfl) (zq_r0 (by omega) (by omega) (by omega)) ?_
        refine zc_nameAt (by omega) hb hQ (by omega) ?_
        refine at_iload_n dX7_inversions_39 rfl ?_
        refine at_callV2 (d := D - 1) dX7_inversions_40 mv_X7_110 (zl_q hb) (Nat.le_of_ble_eq_true rfl) (zq_r0 (by omega) (by omega) (by omega)) ?_
        refine zc_isAhead (by omega) hb hO (hQ.2.2.1 _ ge).2 (hQ.2.2.1 _ ga).2 ?_
        refine at_if_eqB (tgt := 49) dX7_inversions_43 (by decide) (fun c43 => ?_) (fun c43 => ?_)
        · rw [if_neg (by rw [c43]; decide)] at hn
          refine at_iincN dX7_inversions_49 rfl (by decide) ?_
          refine at_goto (tgt := 23) dX7_inversions_52 (by decide) ?_
          exact hn
        · rw [if_pos c43] at hn
          refine at_iincN dX7_inversions_46 rfl (by decide) ?_
          refine at_iincN dX7_inversions_49 rfl (by decide) ?_
          refine at_goto (tgt := 23) dX7_inversions_52 (by decide) ?_
          exact hn
  have outer : ∀ k a c : Nat, a + k = m → post (some (.int (nI (zswO rk x w m k a c)))) n (zl_h κ ρ) → zq_At l G (zq_rm D 0 0) mX7_inversions (zq_QF G post 0 0) 4 [(0, .ref b), (1, .int (nI c)), (2, .int (nI a))] [] n (zl_h κ ρ) 0 0 := by
    intro k
    induction k with
    | zero =>
      intro a c ha hp
      obtain rfl : a = m := ha
      refine at_iload_n dX7_inversions_4 rfl ?_
      refine at_aload_n dX7_inversions_5 rfl ?_
      refine at_get dX7_inversions_6 fl_X7_9 (zl_q hb) rfl ?_
      rw [hQ.1]
      refine at_geN (tgt := 61) dX7_inversions_9 (by decide) (by omega) (by omega) (fun c9 => ?_) (fun c9 => ?_)
      · refine at_iload_n dX7_inversions_61 rfl ?_
        refine at_iret dX7_inversions_62 rfl (by omega) (by omega) ?_
        exact hp
      · omega
    | succ k ih =>
      intro a c ha hp
      unfold zswO at hp
      have hn := ih (a + 1) _ (by omega) hp
      refine at_iload_n dX7_inversions_4 rfl ?_
      refine at_aload_n dX7_inversions_5 rfl ?_
      refine at_get dX7_inversions_6 fl_X7_9 (zl_q hb) rfl ?_
      rw [hQ.1]
      refine at_geN (tgt := 61) dX7_inversions_9 (by decide) (by omega) (by omega) (fun c9 => ?_) (fun c9 => ?_)
      · omega
      · refine at_aload_n dX7_inversions_12 rfl ?_
        refine at_iload_n dX7_inversions_13 rfl ?_
        refine at_callV1 (d := D - 1) dX7_inversions_14 mv_X7_107 (zl_q hb) (Nat.le_of_ble_eq_true rfl) (zq_r0 (by omega) (by omega) (by omega)) ?_
        refine zc_nameAt (by omega) hb hQ (by omega) ?_
        refine at_istore_n dX7_inversions_17 rfl (by decide) ?_
        refine at_iload_n dX7_inversions_18 rfl ?_
        refine at_iconst dX7_inversions_19 (v := nI 1) (by decide) ?_
        refine at_iaddN dX7_inversions_20 ?_
        refine at_istore dX7_inversions_21 (by decide) ?_
        refine inner a (by omega) (m - (a + 1)) (a + 1) c (by omega) ?_
        refine at_iincN dX7_inversions_55 rfl (by decide) ?_
        refine at_goto (tgt := 4) dX7_inversions_58 (by decide) ?_
        exact hn
  refine zq_enter (cc := cX7_inversions) (nL := 5) (ret := (some .int)) cw_X7_inversions (by decide) rfl (Nat.le_of_ble_eq_true rfl) ?_
  refine at_iconst dX7_inversions_0 (v := nI 0) (by decide) ?_
  refine at_istore_n dX7_inversions_1 rfl (by decide) ?_
  refine at_iconst dX7_inversions_2 (v := nI 0) (by decide) ?_
  refine at_istore_n dX7_inversions_3 rfl (by decide) ?_
  exact outer m 0 0 (Nat.zero_add _) hp
theorem zc_isRightWithout {s : Nat} (hD : 4 ≤ D) (hs : s < 2147483648) (hb : zQb b) (hQ : zQN κ b m x w) (hO : zQO κ b rk) (hp : post (some (.int (zb (zrwF rk x w s m 0 0)))) n (zl_h κ ρ)) : zq_Runs l G D 0 0 yX7_isRightWithout [.ref b, .int (nI s)] n (zl_h κ ρ) post := by
  have hm7 := hQ.2.1
  have loop : ∀ k p q : Nat, p + k = m → q ≤ p → post (some (.int (zb (zrwF rk x w s k p q)))) n (zl_h κ ρ) → zq_At l G (zq_rm D 0 0) mX7_isRightWithout (zq_QF G post 0 0) 4 [(0, .ref b), (1, .int (nI s)), (2, .int (nI (if q = 0 then 0 else x (w (q - 1))))), (3, .int (nI p))] [] n (zl_h κ ρ) 0 0 := by
    intro k
    induction k with
    | zero =>
      intro p q hpk hq hp2
      obtain rfl : p = m := hpk
      have hp := hp2
      refine at_iload_n dX7_isRightWithout_4 rfl ?_
      refine at_aload_n dX7_isRightWithout_5 rfl ?_
      refine at_get dX7_isRightWithout_6 fl_X7_9 (zl_q hb) rfl ?_
      rw [hQ.1]
      refine at_geN (tgt := 52) dX7_isRightWithout_9 (by decide) (by omega) (by omega) (fun c9 => ?_) (fun c9 => ?_)
      · refine at_iconst dX7_isRightWithout_52 (v := nI 1) (by decide) ?_
        refine at_zret dX7_isRightWithout_53 rfl (by omega) (by omega) (by first | exact Or.inl rfl | exact Or.inr rfl | assumption) ?_
        exact hp
      · omega
    | succ k ih =>
      intro p q hpk hq hp
      unfold zrwF at hp
      have gp := (hQ.2.2.2 p (by omega)).2
      have gx := (hQ.2.2.1 _ gp).2
      have gl : q ≠ 0 → zvn (x (w (q - 1))) := fun h => (hQ.2.2.1 _ (hQ.2.2.2 (q - 1) (by omega)).2).2
      have hlast : (if q = 0 then 0 else x (w (q - 1))) < 2147483648 := by
        by_cases e : q = 0
        · rw [if_pos e]; decide
        · rw [if_neg e]; have := (gl e).2.1; omega
      have hz : (if q = 0 then 0 else x (w (q - 1))) = 0 ↔ q = 0 := by
        by_cases e : q = 0
        · rw [if_pos e]; exact ⟨fun _ => e, fun _ => rfl⟩
        · rw [if_neg e]; have := (gl e).1; omega
      refine at_iload_n dX7_isRightWithout_4 rfl ?_
      refine at_aload_n dX7_isRightWithout_5 rfl ?_
      refine at_get dX7_isRightWithout_6 fl_X7_9 (zl_q hb) rfl ?_
      rw [hQ.1]
      refine at_geN (tgt := 52) dX7_isRightWithout_9 (by decide) (by omega) (by omega) (fun c9 => ?_) (fun c9 => ?_)
      · omega
      · refine at_iload_n dX7_isRightWithout_12 rfl ?_
        refine at_iload_n dX7_isRightWithout_13 rfl ?_
        refine at_ishr dX7_isRightWithout_14 ?_
        refine at_iconst dX7_isRightWithout_15 (v := nI 1) (by decide) ?_
        refine at_iand dX7_isRightWithout_16 ?_
        rw [zbit hs (by omega)]
        refine at_if_neN (tgt := 46) dX7_isRightWithout_17 (by decide) (by omega) (fun c17 => ?_) (fun c17 => ?_)
        · rw [if_pos (by omega)] at hp
          have hn := ih (p + 1) q (by omega) (by omega) hp
          refine at_iincN dX7_isRightWithout_46 rfl (by decide) ?_
          refine at_goto (tgt := 4) dX7_isRightWithout_49 (by decide) ?_
          exact at_lv [0, 1, 2, 3] hn
        · rw [if_neg (by omega)] at hp
          refine at_aload_n dX7_isRightWithout_20 rfl ?_
          refine at_iload_n dX7_isRightWithout_21 rfl ?_
          refine at_callV1 (d := D - 1) dX7_isRightWithout_22 mv_X7_107 (zl_q hb) (Nat.le_of_ble_eq_true rfl) (zq_r0 (by omega) (by omega) (by omega)) ?_
          refine zc_nameAt (by omega) hb hQ (by omega) ?_
          refine at_istore dX7_isRightWithout_25 (by decide) ?_
          refine at_iload_n dX7_isRightWithout_27 rfl ?_
          refine at_if_eqN (tgt := 43) dX7_isRightWithout_28 (by decide) (by omega) (fun c28 => ?_) (fun c28 => ?_)
          · rw [if_neg (fun h => h.1 (hz.mp c28))] at hp
            have hn := ih (p + 1) (p + 1) (by omega) (by omega) hp
            rw [if_neg (by omega), Nat.add_sub_cancel] at hn
            refine at_iload dX7_isRightWithout_43 rfl ?_
            refine at_istore_n dX7_isRightWithout_45 rfl (by decide) ?_
            refine at_iincN dX7_isRightWithout_46 rfl (by decide) ?_
            refine at_goto (tgt := 4) dX7_isRightWithout_49 (by decide) ?_
            exact at_lv [0, 1, 2, 3] hn
          · have hq0 : q ≠ 0 := fun h => c28 (hz.mpr h)
            rw [if_neg hq0]
            refine at_aload_n dX7_isRightWithout_31 rfl ?_
            refine at_iload dX7_isRightWithout_32 rfl ?_
            refine at_iload_n dX7_isRightWithout_34 rfl ?_
            refine at_callV2 (d := D - 1) dX7_isRightWithout_35 mv_X7_110 (zl_q hb) (Nat.le_of_ble_eq_true rfl) (zq_r0 (by omega) (by omega) (by omega)) ?_
            refine zc_isAhead (by omega) hb hO gx (gl hq0) ?_
            refine at_if_eqB (tgt := 43) dX7_isRightWithout_38 (by decide) (fun c38 => ?_) (fun c38 => ?_)
            · rw [if_neg (fun h => by rw [c38] at h; cases h.2)] at hp
              have hn := ih (p + 1) (p + 1) (by omega) (by omega) hp
              rw [if_neg (by omega), Nat.add_sub_cancel] at hn
              refine at_iload dX7_isRightWithout_43 rfl ?_
              refine at_istore_n dX7_isRightWithout_45 rfl (by decide) ?_
              refine at_iincN dX7_isRightWithout_46 rfl (by decide) ?_
              refine at_goto (tgt := 4) dX7_isRightWithout_49 (by decide) ?_
              exact at_lv [0, 1, 2, 3] hn
            · rw [if_pos ⟨hq0, c38⟩] at hp
              refine at_iconst dX7_isRightWithout_41 (v := nI 0) (by decide) ?_
              refine at_zret dX7_isRightWithout_42 rfl (by omega) (by omega) (by first | exact Or.inl rfl | exact Or.inr rfl | assumption) ?_
              exact hp
  refine zq_enter (cc := cX7_isRightWithout) (nL := 5) (ret := (some .boolean)) cw_X7_isRightWithout (by decide) rfl (Nat.le_of_ble_eq_true rfl) ?_
  refine at_iconst dX7_isRightWithout_0 (v := nI 0) (by decide) ?_
  refine at_istore_n dX7_isRightWithout_1 rfl (by decide) ?_
  refine at_iconst dX7_isRightWithout_2 (v := nI 0) (by decide) ?_
  refine at_istore_n dX7_isRightWithout_3 rfl (by decide) ?_
  exact loop m 0 0 (Nat.zero_add _) (Nat.le_refl _) hp
theorem zc_fewestOut (hD : 5 ≤ D) (hb : zQb b) (hQ : zQN κ b m x w) (hO : zQO κ b rk) (hp : post (some (.int (nI (zout rk x w m)))) n (zl_h κ ρ)) : zq_Runs l G D 0 0 yX7_fewestOut [.ref b] n (zl_h κ ρ) post := by
  have hm7 := hQ.2.1
  have h128 : 2 ^ m ≤ 2 ^ 7 := Nat.pow_le_pow_right (by decide) hm7
  have loop : ∀ k s q : Nat, s + k = 2 ^ m → q ≤ s → post (some (.int (nI (zbest (fun s => zrwF rk x w s m 0 0) k s q - 1)))) n (zl_h κ ρ) → zq_At l G (zq_rm D 0 0) mX7_fewestOut (zq_QF G post 0 0) 7 [(0, .ref b), (1, .int (nI (q - 1))), (2, .int (nI (if q = 0 then 8 else zpop (q - 1) 7))), (3, .int (nI s))] [] n (zl_h κ ρ) 0 0 := by
    intro k
    induction k with
    | zero =>
      intro s q hs hq hp
      have hp : post (some (.int (nI (q - 1)))) n (zl_h κ ρ) := hp
      refine at_iload_n dX7_fewestOut_7 rfl ?_
      refine at_iconst dX7_fewestOut_8 (v := nI 1) (by decide) ?_
      refine at_aload_n dX7_fewestOut_9 rfl ?_
      refine at_get dX7_fewestOut_10 fl_X7_9 (zl_q hb) rfl ?_
      rw [hQ.1]
      refine at_ishl dX7_fewestOut_13 ?_
      rw [zshl1 hm7]
      refine at_geN (tgt := 55) dX7_fewestOut_14 (by decide) (by omega) (by omega) (fun c14 => ?_) (fun c14 => ?_)
      · refine at_iload_n dX7_fewestOut_55 rfl ?_
        refine at_iret dX7_fewestOut_56 rfl (by omega) (by omega) ?_
        exact hp
      · omega
    | succ k ih =>
      intro s q hs hq hp
      unfold zbest at hp
      have hps := zpop_le s 7
      have hpq := zpop_le (q - 1) 7
      refine at_iload_n dX7_fewestOut_7 rfl ?_
      refine at_iconst dX7_fewestOut_8 (v := nI 1) (by decide) ?_
      refine at_aload_n dX7_fewestOut_9 rfl ?_
      refine at_get dX7_fewestOut_10 fl_X7_9 (zl_q hb) rfl ?_
      rw [hQ.1]
      refine at_ishl dX7_fewestOut_13 ?_
      rw [zshl1 hm7]
      refine at_geN (tgt := 55) dX7_fewestOut_14 (by decide) (by omega) (by omega) (fun c14 => ?_) (fun c14 => ?_)
      · omega
      · refine at_iload_n dX7_fewestOut_17 rfl ?_
        refine at_sipush dX7_fewestOut_18 (v := nI 128) (by decide) ?_
        refine at_geN (tgt := 55) dX7_fewestOut_21 (by decide) (by omega) (by omega) (fun c21 => ?_) (fun c21 => ?_)
        · omega
        · refine at_iload_n dX7_fewestOut_24 rfl ?_
          refine at_callS1 (d := D - 1) dX7_fewestOut_25 ms_X7_114 (Nat.le_of_ble_eq_true rfl) (zq_r0 (by omega) (by omega) (by omega)) ?_
          refine zc_bitCount (by omega) ?_
          refine at_istore dX7_fewestOut_28 (by decide) ?_
          refine at_iload dX7_fewestOut_30 rfl ?_
          refine at_iload_n dX7_fewestOut_32 rfl ?_
          refine at_geN (tgt := 49) dX7_fewestOut_33 (by decide) (by omega) (by split <;> omega) (fun c33 => ?_) (fun c33 => ?_)
          · have e : ¬ (q = 0 ∨ zpop s 7 < zpop (q - 1) 7) := by
              by_cases e : q = 0
              · rw [if_pos e] at c33; omega
              · rw [if_neg e] at c33; omega
            rw [if_neg (fun h => e h.1)] at hp
            have hn := ih (s + 1) q (by omega) (by omega) hp
            refine at_iincN dX7_fewestOut_49 rfl (by decide) ?_
            refine at_goto (tgt := 7) dX7_fewestOut_52 (by decide) ?_
            exact at_lv [0, 1, 2, 3] hn
          · have e : q = 0 ∨ zpop s 7 < zpop (q - 1) 7 := by
              by_cases e : q = 0
              · exact Or.inl e
              · rw [if_neg e] at c33; exact Or.inr c33
            refine at_aload_n dX7_fewestOut_36 rfl ?_
            refine at_iload_n dX7_fewestOut_37 rfl ?_
            refine at_callV1 (d := D - 1) dX7_fewestOut_38 mv_X7_119 (zl_q hb) (Nat.le_of_ble_eq_true rfl) (zq_r0 (by omega) (by omega) (by omega)) ?_
            refine zc_isRightWithout (by omega) (by omega) hb hQ hO ?_
            refine at_if_eqB (tgt := 49) dX7_fewestOut_41 (by decide) (fun c41 => ?_) (fun c41 => ?_)
            · rw [if_neg (fun h => by rw [c41] at h; cases h.2)] at hp
              have hn := ih (s + 1) q (by omega) (by omega) hp
              refine at_iincN dX7_fewestOut_49 rfl (by decide) ?_
              refine at_goto (tgt := 7) dX7_fewestOut_52 (by decide) ?_
              exact at_lv [0, 1, 2, 3] hn
            · rw [if_pos ⟨e, c41⟩] at hp
              have hn := ih (s + 1) (s + 1) (by omega) (by omega) hp
              rw [if_neg (by omega), Nat.add_sub_cancel] at hn
              refine at_iload dX7_fewestOut_44 rfl ?_
              refine at_istore_n dX7_fewestOut_46 rfl (by decide) ?_
              refine at_iload_n dX7_fewestOut_47 rfl ?_
              refine at_istore_n dX7_fewestOut_48 rfl (by decide) ?_
              refine at_iincN dX7_fewestOut_49 rfl (by decide) ?_
              refine at_goto (tgt := 7) dX7_fewestOut_52 (by decide) ?_
              exact at_lv [0, 1, 2, 3] hn
  refine zq_enter (cc := cX7_fewestOut) (nL := 5) (ret := (some .int)) cw_X7_fewestOut (by decide) rfl (Nat.le_of_ble_eq_true rfl) ?_
  refine at_iconst dX7_fewestOut_0 (v := nI 0) (by decide) ?_
  refine at_istore_n dX7_fewestOut_1 rfl (by decide) ?_
  refine at_bipush dX7_fewestOut_2 (v := nI 8) (by decide) ?_
  refine at_istore_n dX7_fewestOut_4 rfl (by decide) ?_
  refine at_iconst dX7_fewestOut_5 (v := nI 0) (by decide) ?_
  refine at_istore_n dX7_fewestOut_6 rfl (by decide) ?_
  exact loop (2 ^ m) 0 0 (Nat.zero_add _) (Nat.le_refl _) hp
/-- what each says on, at a quay -/
def zQS (κ : zl_S) (b m : Nat) (sd : Nat → Nat → Nat) : Prop := ∀ p y, p < m → 1 ≤ y → y ≤ 5 → κ.2.1 (b + 4) (5 * p + y - 1) = nI (sd p y) ∧ 1 ≤ sd p y ∧ sd p y ≤ 5
theorem zc_toldAlong {y : Nat} (hD : 2 ≤ D) (hb : zQb b) (hQ : zQN κ b m x w) (hS : zQS κ b m sd) (h1 : 1 ≤ y) (h5 : y ≤ 5) (hp : post (some (.int (nI (zwh w sd m 0 y)))) n (zl_h κ ρ)) : zq_Runs l G D 0 0 yX7_toldAlong [.ref b, .int (nI y)] n (zl_h κ ρ) post := by
  have hm7 := hQ.2.1
  have loop : ∀ k p z : Nat, p + k = m → 1 ≤ z → z ≤ 5 → post (some (.int (nI (zwh w sd k p z)))) n (zl_h κ ρ) → zq_At l G (zq_rm D 0 0) mX7_toldAlong (zq_QF G post 0 0) 4 [(0, .ref b), (1, .int (nI y)), (2, .int (nI z)), (3, .int (nI p))] [] n (zl_h κ ρ) 0 0 := by
    intro k
    induction k with
    | zero =>
      intro p z hpk z1 z5 hp2
      obtain rfl : p = m := hpk
      have hp := hp2
      refine at_iload_n dX7_toldAlong_4 rfl ?_
      refine at_aload_n dX7_toldAlong_5 rfl ?_
      refine at_get dX7_toldAlong_6 fl_X7_9 (zl_q hb) rfl ?_
      rw [hQ.1]
      refine at_geN (tgt := 38) dX7_toldAlong_9 (by decide) (by omega) (by omega) (fun c9 => ?_) (fun c9 => ?_)
      · refine at_iload_n dX7_toldAlong_38 rfl ?_
        refine at_iret dX7_toldAlong_39 rfl (by omega) (by omega) ?_
        exact hp
      · omega
    | succ k ih =>
      intro p z hpk z1 z5 hp
      unfold zwh at hp
      obtain ⟨g1, g2⟩ := hQ.2.2.2 p (by omega)
      obtain ⟨s1, s2, s3⟩ := hS (w p) z g2 z1 z5
      have hn := ih (p + 1) _ (by omega) s2 s3 hp
      refine at_iload_n dX7_toldAlong_4 rfl ?_
      refine at_aload_n dX7_toldAlong_5 rfl ?_
      refine at_get dX7_toldAlong_6 fl_X7_9 (zl_q hb) rfl ?_
      rw [hQ.1]
      refine at_geN (tgt := 38) dX7_toldAlong_9 (by decide) (by omega) (by omega) (fun c9 => ?_) (fun c9 => ?_)
      · omega
      · refine at_aload_n dX7_toldAlong_12 rfl ?_
        refine at_iload_n dX7_toldAlong_13 rfl ?_
        refine at_callV1 (d := D - 1) dX7_toldAlong_14 mv_X7_75 (zl_q hb) (Nat.le_of_ble_eq_true rfl) (zq_r0 (by omega) (by omega) (by omega)) ?_
        refine zc_has hb hQ.1 hm7 ?_
        rw [zix_n (by omega), decide_eq_true (by omega)]
        refine at_if_eqB (tgt := 38) dX7_toldAlong_17 (by decide) (fun c17 => ?_) (fun c17 => ?_)
        · cases c17
        · refine at_aload_n dX7_toldAlong_20 rfl ?_
          refine at_aload_n dX7_toldAlong_21 rfl ?_
          refine at_get dX7_toldAlong_22 fl_X7_19 (zl_q hb) rfl ?_
          refine at_iload_n dX7_toldAlong_25 rfl ?_
          refine at_uld (b := b) (c := 2) dX7_toldAlong_26 hb (by decide) (by decide) rfl (by show _ < 7; omega) ?_
          rw [g1]
          refine at_iload_n dX7_toldAlong_27 rfl ?_
          refine at_callV2 (d := D - 1) dX7_toldAlong_28 mv_X7_122 (zl_q hb) (Nat.le_of_ble_eq_true rfl) (zq_r0 (by omega) (by omega) (by omega)) ?_
          refine zc_said (by omega) hb hQ.1 hm7 g2 z1 z5 ?_
          rw [s1]
          refine at_istore_n dX7_toldAlong_31 rfl (by decide) ?_
          refine at_iincN dX7_toldAlong_32 rfl (by decide) ?_
          refine at_goto (tgt := 4) dX7_toldAlong_35 (by decide) ?_
          exact hn
  refine zq_enter (cc := cX7_toldAlong) (nL := 4) (ret := (some .int)) cw_X7_toldAlong (by decide) rfl (Nat.le_of_ble_eq_true rfl) ?_
  refine at_iload_n dX7_toldAlong_0 rfl ?_
  refine at_istore_n dX7_toldAlong_1 rfl (by decide) ?_
  refine at_iconst dX7_toldAlong_2 (v := nI 0) (by decide) ?_
  refine at_istore_n dX7_toldAlong_3 rfl (by decide) ?_
  exact loop m 0 y (Nat.zero_add _) h1 h5 hp
end ZC3

