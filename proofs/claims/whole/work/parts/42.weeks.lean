/-! ===== the Model's weeks, counts ===== -/
/-- what a draw leaves -/
def zdrw (s : Nat) : Nat := (1103 * s + 12345) % 1000003
theorem zdrw_lt (s : Nat) : zdrw s < 1000003 := Nat.mod_lt _ (by decide)
theorem zL_rem2 {x y : Nat} (hx : x < 4000000000000000000) (hy : y < 4000000000000000000) : zL x - zL x / zL y * zL y = zL (x % y : Nat) := by
  have h := Int64.toInt_div (zL x) (zL y)
  rw [zL_toInt (x := x) (by omega) (by omega), zL_toInt (x := y) (by omega) (by omega)] at h
  have h1 := Int.natAbs_tdiv_le_natAbs (x : Int) y
  have e : zL x / zL y = zL ((x : Int).tdiv y) := by rw [← zL_of (zL x / zL y), h, Int.bmod_eq_of_le (by omega) (by omega)]
  rw [e, zL_mul, zL_sub]
  congr 1
  have h2 := Int.tmod_def (x : Int) y
  rw [Int.mul_comm] at h2
  rw [← h2]
  exact (Int.ofNat_tmod x y).symm
theorem zL_i32 {x : Int} (h1 : -2147483648 ≤ x) (h2 : x < 2147483648) : (zL x).toInt32 = zI x := by rw [← zL_I h1 h2]; exact lg_l2i_i2l _
theorem zdrw_l {s : Nat} (hs : s ≤ 1000002) : ((1103 : Int64) * (nI s).toInt64 + 12345 - ((1103 : Int64) * (nI s).toInt64 + 12345) / 1000003 * 1000003).toInt32 = nI (zdrw s) := by
  have hl := zdrw_lt s
  rw [zL_n (by omega), show (1103 : Int64) = zL ((1103 : Nat) : Int) from rfl, show (12345 : Int64) = zL ((12345 : Nat) : Int) from rfl, show (1000003 : Int64) = zL ((1000003 : Nat) : Int) from rfl, zL_mul, zL_add, ← Int.natCast_mul, ← Int.natCast_add, zL_rem2 (by omega) (by omega), zL_i32 (by unfold zdrw at hl; omega) (by unfold zdrw at hl; omega), zI_n]
  rfl
/-- names and the row as they are kept -/
def zX1 (K : Nat → Int32) (p : Nat) : Nat := (K p).toNatClampNeg
def zW1 (K : Nat → Int32) (k : Nat) : Nat := (K (7 + k)).toNatClampNeg
/-- people in order -/
def zCk (K : Nat → Int32) (m : Nat) : Prop := K 73 = nI m ∧ m ≤ 7 ∧ (∀ p, p < m → K p = nI (zX1 K p) ∧ zvn (zX1 K p)) ∧ ∀ k, k < m → K (7 + k) = nI (zW1 K k) ∧ zW1 K k < m
theorem zX1_n {K : Nat → Int32} {p x : Nat} (h : K p = nI x) (hx : x < 2147483648) : zX1 K p = x := by unfold zX1; rw [h, nI_clamp hx]
theorem zW1_n {K : Nat → Int32} {k x : Nat} (h : K (7 + k) = nI x) (hx : x < 2147483648) : zW1 K k = x := by unfold zW1; rw [h, nI_clamp hx]
theorem zCk_of {σ : zm_S} {m : Nat} {x w rk : Nat → Nat} (h : zC σ m x w rk) : zCk (σ.2.1 72) m ∧ (∀ p, p < m → zX1 (σ.2.1 72) p = x p) ∧ ∀ k, k < m → zW1 (σ.2.1 72) k = w k := by
  obtain ⟨h1, h2, h3, h4, -⟩ := h
  have e1 : ∀ p, p < m → zX1 (σ.2.1 72) p = x p := fun p hp => zX1_n (h3 p hp).1 (by have := (h3 p hp).2.2.1; omega)
  have e2 : ∀ k, k < m → zW1 (σ.2.1 72) k = w k := fun k hk => zW1_n (h4 k hk).1 (by have := (h4 k hk).2; omega)
  exact ⟨⟨h1, h2, fun p hp => by rw [e1 p hp]; exact h3 p hp, fun k hk => by rw [e2 k hk]; exact h4 k hk⟩, e1, e2⟩
theorem zC_of {σ : zm_S} {m : Nat} {rk : Nat → Nat} (h : zCk (σ.2.1 72) m) (hr : ∀ y, 1 ≤ y → y ≤ 5 → σ.2.1 76 y = nI (rk y) ∧ rk y < 5) : zC σ m (zX1 (σ.2.1 72)) (zW1 (σ.2.1 72)) rk := ⟨h.1, h.2.1, h.2.2.1, h.2.2.2, hr⟩
theorem zCk_c {K K' : Nat → Int32} {m : Nat} (h : zCk K m) (h1 : K' 73 = K 73) (h2 : ∀ p, p < m → ∃ x, K' p = nI x ∧ zvn x) (h3 : ∀ k, k < m → ∃ x, K' (7 + k) = nI x ∧ x < m) : zCk K' m := by
  refine ⟨h1.trans h.1, h.2.1, fun p hp => ?_, fun k hk => ?_⟩
  · obtain ⟨x, e, g⟩ := h2 p hp
    have g5 := g.2.1
    rw [zX1_n e (by omega)]
    exact ⟨e, g⟩
  · obtain ⟨x, e, g⟩ := h3 k hk
    have := h.2.1
    rw [zW1_n e (by omega)]
    exact ⟨e, g⟩
theorem zCk_swp {K : Nat → Int32} {m k : Nat} (h : zCk K m) (hk : k + 1 < m) : zCk (zswp K k) m := by
  have hm := h.2.1
  refine zCk_c h ?_ (fun p hp => ?_) (fun j hj => ?_)
  · unfold zswp; rw [upd_o _ (by omega), upd_o _ (by omega)]
  · unfold zswp; rw [upd_o _ (by omega), upd_o _ (by omega)]; exact ⟨_, h.2.2.1 p hp⟩
  · unfold zswp
    by_cases e : j = k + 1
    · subst e; rw [show 7 + (k + 1) = 7 + k + 1 from rfl, upd_s]; exact ⟨_, h.2.2.2 k (by omega)⟩
    · rw [upd_o _ (by omega)]
      by_cases e2 : j = k
      · subst e2; rw [upd_s]; exact ⟨_, h.2.2.2 (j + 1) hk⟩
      · rw [upd_o _ (by omega)]; exact ⟨_, h.2.2.2 j hj⟩
theorem zCk_name {K : Nat → Int32} {m p x : Nat} (h : zCk K m) (hp : p < m) (hx : zvn x) : zCk (upd K p (nI x)) m := by
  have hm := h.2.1
  refine zCk_c h (upd_o _ (by omega) _) (fun q hq => ?_) (fun j hj => ?_)
  · by_cases e : q = p
    · subst e; rw [upd_s]; exact ⟨_, rfl, hx⟩
    · rw [upd_o _ e]; exact ⟨_, h.2.2.1 q hq⟩
  · rw [upd_o _ (by omega)]; exact ⟨_, h.2.2.2 j hj⟩
theorem zCk_hi {K K' : Nat → Int32} {m : Nat} (h : zCk K m) (h1 : K' 73 = K 73) (h2 : ∀ j, j < 14 → K' j = K j) : zCk K' m := by
  have hm := h.2.1
  refine zCk_c h h1 (fun p hp => ?_) (fun k hk => ?_)
  · rw [h2 p (by omega)]; exact ⟨_, h.2.2.1 p hp⟩
  · rw [h2 (7 + k) (by omega)]; exact ⟨_, h.2.2.2 k hk⟩
/-- a drawn day: whom, what, which letter -/
def zdayK (Lo : Option (List zLC)) (m p wh y : Nat) (K : Nat → Int32) : Nat → Int32 :=
  if wh < 2 ∧ p + 1 < m then zswp K p else if wh = 2 ∧ zlt (zX1 K p) 0 ≠ y ∧ zbar K m p (zX1 K p) Lo = false then upd K p (nI (zwl (zX1 K p) 0 y)) else K
def zdayS (Lo : Option (List zLC)) (m s : Nat) (K : Nat → Int32) : Nat → Int32 :=
  upd (zdayK Lo m (zdrw s % m) (zdrw (zdrw s) % 4) (zdrw (zdrw (zdrw s)) % 5 + 1) K) 19 (nI ((K 19).toNatClampNeg + 1))
theorem zdayK_C {Lo : Option (List zLC)} {m p wh y : Nat} {K : Nat → Int32} (h : zCk K m) (hp : p < m) (h1 : 1 ≤ y) (h5 : y ≤ 5) : zCk (zdayK Lo m p wh y K) m := by
  unfold zdayK
  split
  · next e => exact zCk_swp h e.2
  · split
    · exact zCk_name h hp (zwl_ok (h.2.2.1 p hp).2 (by have := zlen_le (zX1 K p); omega) h1 h5).1
    · exact h
theorem zdayK_o {Lo : Option (List zLC)} {m p wh y : Nat} {K : Nat → Int32} (hm : m ≤ 7) (hp : p < m) {j : Nat} (hj : 14 ≤ j) : zdayK Lo m p wh y K j = K j := by
  unfold zdayK zswp
  split
  · rw [upd_o _ (by omega), upd_o _ (by omega)]
  · split
    · rw [upd_o _ (by omega)]
    · rfl
theorem zdayS_C {Lo : Option (List zLC)} {m s : Nat} {K : Nat → Int32} (h : zCk K m) (h0 : 0 < m) : zCk (zdayS Lo m s K) m := by
  have g := zdayK_C (Lo := Lo) (wh := zdrw (zdrw s) % 4) h (Nat.mod_lt (zdrw s) h0) (show 1 ≤ zdrw (zdrw (zdrw s)) % 5 + 1 by omega) (show zdrw (zdrw (zdrw s)) % 5 + 1 ≤ 5 by omega)
  unfold zdayS
  exact zCk_hi g (upd_o _ (by decide) _) (fun j hj => upd_o _ (by omega) _)
theorem zdayS_o {Lo : Option (List zLC)} {m s : Nat} {K : Nat → Int32} (hm : m ≤ 7) (h0 : 0 < m) {j : Nat} (hj : 14 ≤ j) (h19 : j ≠ 19) : zdayS Lo m s K j = K j := by
  unfold zdayS
  rw [upd_o _ h19]
  exact zdayK_o hm (Nat.mod_lt _ h0) hj
/-- n weeks at most: what is kept behind them, how many came out right -/
def zwk (Lo : Option (List zLC)) (rk : Nat → Nat) (m : Nat) : Nat → (Nat → Int32) → Nat → Nat → (Nat → Int32) × Nat
  | 0, K, _, c => (K, c)
  | f + 1, K, s, c => if 999 ≤ (K 19).toNatClampNeg then (K, c) else zwk Lo rk m f (zdayS Lo m s K) (zdrw (zdrw (zdrw s))) (c + if zrt rk (zX1 (zdayS Lo m s K)) (zW1 (zdayS Lo m s K)) m = true then 1 else 0)
theorem zForce_c {K K' : Nat → Int32} {Lo : Option (List zLC)} (h : zForce K Lo) (e : ∀ j, 76 ≤ j → K' j = K j) : zForce K' Lo := by
  rcases h with ⟨h1, h2⟩ | ⟨u, L, h1, h2, ⟨E, cd, vl, g1, g2, g3, g4, g5, g6⟩, h4⟩
  · exact Or.inl ⟨(e 76 (by decide)).trans h1, h2⟩
  · exact Or.inr ⟨u, L, h1, (e 76 (by decide)).trans h2, ⟨E, cd, vl, g1, (e (77 + u) (by omega)).trans g2, g3, g4, fun k hk => ⟨(e _ (by omega)).trans (g5 k hk).1, (e _ (by omega)).trans (g5 k hk).2⟩, g6⟩, h4⟩
section ZL33
variable {l : Launch} {G : zq_G} {D n m : Nat} {σ : zm_S} {ρ : Nat → zq_E} {post : Option Value → Nat → (Nat → zq_E) → Prop} {rk al : Nat → Nat} {Lo : Option (List zLC)}
theorem zm_draws {s k : Nat} (h54 : σ.1 54 = nI s) (hs : s ≤ 1000002) (hk : 0 < k) (hk2 : k < 2147483648) (hp : post (some (.int (nI (zdrw s % k)))) n (zm_h (zm_si σ 54 (nI (zdrw s))) ρ)) : zq_Runs l G D 0 0 yX12_draws [.ref 70, .int (nI k)] n (zm_h σ ρ) post := by
  have hl := zdrw_lt s
  refine zq_enter (cc := cX12_draws) (nL := 2) (ret := (some .int)) cw_X12_draws (by decide) rfl (Nat.le_of_ble_eq_true rfl) ?_
  refine at_aload_n dX12_draws_0 rfl ?_
  refine at_ldc2 dX12_draws_1 kl_X12_516 ?_
  refine at_aload_n dX12_draws_4 rfl ?_
  refine at_get dX12_draws_5 fl_X12_518 rfl rfl ?_
  rw [h54]
  refine at_i2l dX12_draws_8 ?_
  refine at_lmul dX12_draws_9 ?_
  refine at_ldc2 dX12_draws_10 kl_X12_521 ?_
  refine at_ladd dX12_draws_13 ?_
  refine at_ldc2 dX12_draws_14 kl_X12_523 ?_
  refine at_lrem dX12_draws_17 (by decide) ?_
  refine at_l2i dX12_draws_18 ?_
  rw [zdrw_l hs]
  refine at_mput dX12_draws_19 (pl_X12_518 _) (fun _ => ⟨_, rfl⟩) rfl rfl ?_
  refine at_aload_n dX12_draws_22 rfl ?_
  refine at_get dX12_draws_23 fl_X12_518 rfl rfl ?_
  rw [zsi_s]
  refine at_iload_n dX12_draws_26 rfl ?_
  refine at_iremN dX12_draws_27 (by omega) (by omega) (by omega) ?_
  refine at_iret dX12_draws_28 rfl (by omega) (by omega) ?_
  exact hp
theorem zm_dayIsDrawn {s d : Nat} (hD : 75 ≤ D) (hC : zC σ m (zX1 (σ.2.1 72)) (zW1 (σ.2.1 72)) rk) (h0 : 0 < m) (h72 : zSm (σ.2.1 72 72)) (h19 : σ.2.1 72 19 = nI d) (hd : d < 1000) (hF : zForce (σ.2.1 72) Lo) (h54 : σ.1 54 = nI s) (hs : s ≤ 1000002)
    (hp : ∀ τ, zTe τ (zm_si (zsK σ (zdayS Lo m s (σ.2.1 72))) 54 (nI (zdrw (zdrw (zdrw s))))) → post none n (zm_h τ ρ)) : zq_Runs l G D 0 0 yX12_dayIsDrawn [.ref 70] n (zm_h σ ρ) post := by
  have hm7 := hC.2.1
  have s1 := zdrw_lt s
  have s2 := zdrw_lt (zdrw s)
  have s3 := zdrw_lt (zdrw (zdrw s))
  have hpm := Nat.mod_lt (zdrw s) h0
  obtain ⟨g1, g2⟩ := hC.2.2.1 _ hpm
  have hx5 := g2.2.1
  have hl4 := zlen_le (zX1 (σ.2.1 72) (zdrw s % m))
  have hlt := zlt_lt (zX1 (σ.2.1 72) (zdrw s % m)) 0
  have e72 : ∀ v, (zm_si σ 54 v).2.1 72 = σ.2.1 72 := fun _ => rfl
  -- the end: the day goes on
  have fin : ∀ τ K', zTe τ (zm_si (zsK σ K') 54 (nI (zdrw (zdrw (zdrw s))))) → K' 19 = σ.2.1 72 19 → zdayK Lo m (zdrw s % m) (zdrw (zdrw s) % 4) (zdrw (zdrw (zdrw s)) % 5 + 1) (σ.2.1 72) = K' → ∀ lv, zq_lk lv 0 = some (.ref 70) → zq_At l G (zq_rm D 0 0) mX12_dayIsDrawn (zq_QF G post 0 0) 93 lv [] n (zm_h τ ρ) 0 0 := by
    intro τ K' t1 hK he lv hlv
    have f72 : τ.2.1 72 = K' := (t1.2.1 72 (by decide)).trans (zsK_k σ K')
    have hp := hp (zsK τ (upd K' 19 (nI (d + 1)))) (by
      have e : zdayS Lo m s (σ.2.1 72) = upd K' 19 (nI (d + 1)) := by
        unfold zdayS
        rw [he, h19, nI_clamp (by omega)]
      rw [e]
      have := zTe_cK (upd K' 19 (nI (d + 1))) t1
      rw [show zsK (zm_si (zsK σ K') 54 (nI (zdrw (zdrw (zdrw s))))) (upd K' 19 (nI (d + 1))) = zm_si (zsK (zsK σ K') (upd K' 19 (nI (d + 1)))) 54 (nI (zdrw (zdrw (zdrw s)))) from rfl, zsK_K] at this
      exact this)
    refine at_aload_n dX12_dayIsDrawn_93 hlv ?_
    refine at_get dX12_dayIsDrawn_94 fl_X12_42 rfl rfl ?_
    refine at_bipush dX12_dayIsDrawn_97 (v := nI 19) (by decide) ?_
    refine at_dup2 dX12_dayIsDrawn_99 rfl rfl ?_
    refine at_mald (a := 72) dX12_dayIsDrawn_100 (by decide) (by decide) (by decide) (by decide) rfl rfl (by show _ < 5684; omega) (by decide) ?_
    refine at_iconst dX12_dayIsDrawn_101 (v := nI 1) (by decide) ?_
    rw [f72, hK, h19]
    refine at_iaddN dX12_dayIsDrawn_102 ?_
    refine at_mast (a := 72) dX12_dayIsDrawn_103 (by decide) (by decide) (by decide) (by decide) rfl rfl (by show _ < 5684; omega) (by decide) ?_
    rw [zsK_s, f72]
    refine at_vret dX12_dayIsDrawn_104 rfl (by omega) (by omega) ?_
    exact hp
  have e3 : ∀ a b c : Int32, zm_si (zm_si (zm_si σ 54 a) 54 b) 54 c = zm_si σ 54 c := fun a b c => by rw [zsi_si, zsi_si]
  have kz : zm_si (zsK σ (σ.2.1 72)) 54 (nI (zdrw (zdrw (zdrw s)))) = zm_si σ 54 (nI (zdrw (zdrw (zdrw s)))) := by rw [zsK_A, zsA_0]
  refine zq_enter (cc := cX12_dayIsDrawn) (nL := 4) (ret := none) cw_X12_dayIsDrawn (by decide) rfl (Nat.le_of_ble_eq_true rfl) ?_
  refine at_aload_n dX12_dayIsDrawn_0 rfl ?_
  refine at_aload_n dX12_dayIsDrawn_1 rfl ?_
  refine at_callV0 (d := D - 1) dX12_dayIsDrawn_2 mv_X12_141 rfl (Nat.le_of_ble_eq_true rfl) (zq_r0 (by omega) (by omega) (by omega)) ?_
  refine zm_many hC.1 ?_
  refine at_callV1 (d := D - 1) dX12_dayIsDrawn_5 mv_X12_525 rfl (Nat.le_of_ble_eq_true rfl) (zq_r0 (by omega) (by omega) (by omega)) ?_
  refine zm_draws h54 hs h0 (by omega) ?_
  refine at_istore_n dX12_dayIsDrawn_8 rfl (by decide) ?_
  refine at_aload_n dX12_dayIsDrawn_9 rfl ?_
  refine at_iconst dX12_dayIsDrawn_10 (v := nI 4) (by decide) ?_
  refine at_callV1 (d := D - 1) dX12_dayIsDrawn_11 mv_X12_525 rfl (Nat.le_of_ble_eq_true rfl) (zq_r0 (by omega) (by omega) (by omega)) ?_
  refine zm_draws (zsi_s _ _ _) (by omega) (by decide) (by decide) ?_
  refine at_istore_n dX12_dayIsDrawn_14 rfl (by decide) ?_
  refine at_aload_n dX12_dayIsDrawn_15 rfl ?_
  refine at_iconst dX12_dayIsDrawn_16 (v := nI 5) (by decide) ?_
  refine at_callV1 (d := D - 1) dX12_dayIsDrawn_17 mv_X12_525 rfl (Nat.le_of_ble_eq_true rfl) (zq_r0 (by omega) (by omega) (by omega)) ?_
  refine zm_draws (zsi_s _ _ _) (by omega) (by decide) (by decide) ?_
  rw [e3]
  refine at_iconst dX12_dayIsDrawn_20 (v := nI 1) (by decide) ?_
  refine at_iaddN dX12_dayIsDrawn_21 ?_
  refine at_istore_n dX12_dayIsDrawn_22 rfl (by decide) ?_
  refine at_iload_n dX12_dayIsDrawn_23 rfl ?_
  refine at_iconst dX12_dayIsDrawn_24 (v := nI 2) (by decide) ?_
  refine at_geN (tgt := 43) dX12_dayIsDrawn_25 (by decide) (by omega) (by omega) (fun c25 => ?_) (fun c25 => ?_)
  · refine at_iload_n dX12_dayIsDrawn_43 rfl ?_
    refine at_iconst dX12_dayIsDrawn_44 (v := nI 2) (by decide) ?_
    refine at_neN (tgt := 93) dX12_dayIsDrawn_45 (by decide) (by omega) (by omega) (fun c45 => ?_) (fun c45 => ?_)
    · first
      | refine fin _ (σ.2.1 72) (by rw [kz]; exact zTe_r _) rfl ?_ _ rfl
        unfold zdayK
        rw [if_neg (by omega), if_neg (by first | (intro h; omega) | (intro h; exact h.2.1 c61))]
      | refine fin _ (σ.2.1 72) (by rw [kz]; exact t1) rfl ?_ _ rfl
        unfold zdayK
        rw [if_neg (by omega), if_neg (fun h => by rw [c69] at h; cases h.2.2)]
      | rw [zsK_s, f72]
        refine fin _ _ (zTe_cK _ t1) (upd_o _ (by omega) _) ?_ _ rfl
        unfold zdayK
        rw [if_neg (by omega), if_pos ⟨c45, c61, c69⟩]
    · refine at_aload_n dX12_dayIsDrawn_48 rfl ?_
      refine at_get dX12_dayIsDrawn_49 fl_X12_42 rfl rfl ?_
      refine at_iconst dX12_dayIsDrawn_52 (v := nI 0) (by decide) ?_
      refine at_iload_n dX12_dayIsDrawn_53 rfl ?_
      refine at_iaddN dX12_dayIsDrawn_54 ?_
      refine at_mald (a := 72) dX12_dayIsDrawn_55 (by decide) (by decide) (by decide) (by decide) rfl rfl (by show _ < 5684; omega) (by decide) ?_
      refine at_iconst dX12_dayIsDrawn_56 (v := nI 0) (by decide) ?_
      rw [Nat.zero_add (zdrw s % m), e72, g1]
      refine at_callS2 (d := D - 1) dX12_dayIsDrawn_57 ms_X12_28 (Nat.le_of_ble_eq_true rfl) (zq_r0 (by omega) (by omega) (by omega)) ?_
      refine zm_letterAt (by omega) (by omega) (by omega) ?_
      refine at_iload_n dX12_dayIsDrawn_60 rfl ?_
      refine at_eqN (tgt := 93) dX12_dayIsDrawn_61 (by decide) (by omega) (by omega) (fun c61 => ?_) (fun c61 => ?_)
      · first
        | refine fin _ (σ.2.1 72) (by rw [kz]; exact zTe_r _) rfl ?_ _ rfl
          unfold zdayK
          rw [if_neg (by omega), if_neg (by first | (intro h; omega) | (intro h; exact h.2.1 c61))]
        | refine fin _ (σ.2.1 72) (by rw [kz]; exact t1) rfl ?_ _ rfl
          unfold zdayK
          rw [if_neg (by omega), if_neg (fun h => by rw [c69] at h; cases h.2.2)]
        | rw [zsK_s, f72]
          refine fin _ _ (zTe_cK _ t1) (upd_o _ (by omega) _) ?_ _ rfl
          unfold zdayK
          rw [if_neg (by omega), if_pos ⟨c45, c61, c69⟩]
      · refine at_aload_n dX12_dayIsDrawn_64 rfl ?_
        refine at_iload_n dX12_dayIsDrawn_65 rfl ?_
        refine at_callV1 (d := D - 1) dX12_dayIsDrawn_66 mv_X12_161 rfl (Nat.le_of_ble_eq_true rfl) (zq_r0 (by omega) (by omega) (by omega)) ?_
        refine zm_isBarred (σ := zm_si σ 54 (nI (zdrw (zdrw (zdrw s))))) (by omega) (zC_congr hC rfl rfl) hpm h72 (by rw [e72, h19]; exact zSm_n (by omega)) hF (fun τ t1 => ?_)
        rw [e72]
        have f72 : τ.2.1 72 = σ.2.1 72 := t1.2.1 72 (by decide)
        refine at_if_neB (tgt := 93) dX12_dayIsDrawn_69 (by decide) (fun c69 => ?_) (fun c69 => ?_)
        · first
          | refine fin _ (σ.2.1 72) (by rw [kz]; exact zTe_r _) rfl ?_ _ rfl
            unfold zdayK
            rw [if_neg (by omega), if_neg (by first | (intro h; omega) | (intro h; exact h.2.1 c61))]
          | refine fin _ (σ.2.1 72) (by rw [kz]; exact t1) rfl ?_ _ rfl
            unfold zdayK
            rw [if_neg (by omega), if_neg (fun h => by rw [c69] at h; cases h.2.2)]
          | rw [zsK_s, f72]
            refine fin _ _ (zTe_cK _ t1) (upd_o _ (by omega) _) ?_ _ rfl
            unfold zdayK
            rw [if_neg (by omega), if_pos ⟨c45, c61, c69⟩]
        · refine at_aload_n dX12_dayIsDrawn_72 rfl ?_
          refine at_get dX12_dayIsDrawn_73 fl_X12_42 rfl rfl ?_
          refine at_iconst dX12_dayIsDrawn_76 (v := nI 0) (by decide) ?_
          refine at_iload_n dX12_dayIsDrawn_77 rfl ?_
          refine at_iaddN dX12_dayIsDrawn_78 ?_
          refine at_aload_n dX12_dayIsDrawn_79 rfl ?_
          refine at_get dX12_dayIsDrawn_80 fl_X12_42 rfl rfl ?_
          refine at_iconst dX12_dayIsDrawn_83 (v := nI 0) (by decide) ?_
          refine at_iload_n dX12_dayIsDrawn_84 rfl ?_
          refine at_iaddN dX12_dayIsDrawn_85 ?_
          refine at_mald (a := 72) dX12_dayIsDrawn_86 (by decide) (by decide) (by decide) (by decide) rfl rfl (by show _ < 5684; omega) (by decide) ?_
          rw [Nat.zero_add (zdrw s % m), f72, g1]
          refine at_iconst dX12_dayIsDrawn_87 (v := nI 0) (by decide) ?_
          refine at_iload_n dX12_dayIsDrawn_88 rfl ?_
          refine at_callS3 (d := D - 1) dX12_dayIsDrawn_89 ms_X12_455 (Nat.le_of_ble_eq_true rfl) (zq_r0 (by omega) (by omega) (by omega)) ?_
          refine zm_withLetter (by omega) (by omega) (by omega) ?_
          refine at_mast (a := 72) dX12_dayIsDrawn_92 (by decide) (by decide) (by decide) (by decide) rfl rfl (by show _ < 5684; omega) (by decide) ?_
          first
          | refine fin _ (σ.2.1 72) (by rw [kz]; exact zTe_r _) rfl ?_ _ rfl
            unfold zdayK
            rw [if_neg (by omega), if_neg (by first | (intro h; omega) | (intro h; exact h.2.1 c61))]
          | refine fin _ (σ.2.1 72) (by rw [kz]; exact t1) rfl ?_ _ rfl
            unfold zdayK
            rw [if_neg (by omega), if_neg (fun h => by rw [c69] at h; cases h.2.2)]
          | rw [zsK_s, f72]
            refine fin _ _ (zTe_cK _ t1) (upd_o _ (by omega) _) ?_ _ rfl
            unfold zdayK
            rw [if_neg (by omega), if_pos ⟨c45, c61, c69⟩]
  · refine at_iload_n dX12_dayIsDrawn_28 rfl ?_
    refine at_aload_n dX12_dayIsDrawn_29 rfl ?_
    refine at_callV0 (d := D - 1) dX12_dayIsDrawn_30 mv_X12_141 rfl (Nat.le_of_ble_eq_true rfl) (zq_r0 (by omega) (by omega) (by omega)) ?_
    refine zm_many hC.1 ?_
    refine at_iconst dX12_dayIsDrawn_33 (v := nI 1) (by decide) ?_
    refine at_isubN dX12_dayIsDrawn_34 (by omega) ?_
    refine at_geN (tgt := 43) dX12_dayIsDrawn_35 (by decide) (by omega) (by omega) (fun c35 => ?_) (fun c35 => ?_)
    · refine at_iload_n dX12_dayIsDrawn_43 rfl ?_
      refine at_iconst dX12_dayIsDrawn_44 (v := nI 2) (by decide) ?_
      refine at_neN (tgt := 93) dX12_dayIsDrawn_45 (by decide) (by omega) (by omega) (fun c45 => ?_) (fun c45 => ?_)
      · refine fin _ (σ.2.1 72) (by rw [kz]; exact zTe_r _) rfl ?_ _ rfl
        unfold zdayK
        rw [if_neg (by omega), if_neg (by omega)]
      · omega
    · refine at_aload_n dX12_dayIsDrawn_38 rfl ?_
      refine at_iload_n dX12_dayIsDrawn_39 rfl ?_
      refine at_callV1 (d := D - 1) dX12_dayIsDrawn_40 mv_X12_458 rfl (Nat.le_of_ble_eq_true rfl) (zq_r0 (by omega) (by omega) (by omega)) ?_
      refine zm_swapsNow (by omega) ?_
      rw [e72]
      refine at_iload_n dX12_dayIsDrawn_43 rfl ?_
      refine at_iconst dX12_dayIsDrawn_44 (v := nI 2) (by decide) ?_
      refine at_neN (tgt := 93) dX12_dayIsDrawn_45 (by decide) (by omega) (by omega) (fun c45 => ?_) (fun c45 => ?_)
      · refine fin _ (zswp (σ.2.1 72) (zdrw s % m)) (zTe_r _) ?_ ?_ _ rfl
        · unfold zswp
          rw [upd_o _ (by omega), upd_o _ (by omega)]
        · unfold zdayK
          rw [if_pos ⟨c25, by omega⟩]
      · omega
end ZL33

