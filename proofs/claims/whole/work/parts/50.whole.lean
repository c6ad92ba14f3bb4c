/-! ===== the Model's orders, all of them ===== -/
theorem zForce_c2 {K K' : Nat → Int32} {Lo : Option (List zLC)} (h : zForce K Lo) (e : K' 76 = K 76) (e1 : ∀ u, u < 6 → K' (77 + u) = K (77 + u)) (e2 : ∀ u k, u < 6 → k < 400 → K' (84 + (400 * u + k)) = K (84 + (400 * u + k)) ∧ K' (2884 + (400 * u + k)) = K (2884 + (400 * u + k))) : zForce K' Lo := by
  rcases h with ⟨h1, h2⟩ | ⟨u, L, h1, h2, ⟨E, cd, vl, g1, g2, g3, g4, g5, g6⟩, h4⟩
  · exact Or.inl ⟨e.trans h1, h2⟩
  · exact Or.inr ⟨u, L, h1, e.trans h2, ⟨E, cd, vl, g1, (e1 u h1).trans g2, g3, g4, fun k hk => ⟨(e2 u k h1 (by omega)).1.trans (g5 k hk).1, (e2 u k h1 (by omega)).2.trans (g5 k hk).2⟩, g6⟩, h4⟩
theorem zinv_c {K K' : Nat → Int32} {m d : Nat} (hm : m ≤ 7) (hd : zdv d K m) (e : ∀ j, j < 20 → K' j = K j) : (∀ j, j < 20 → zinv d K' j = zinv d K j) ∧ zdv d K' m := by
  have e19 : K' 19 = K 19 := e 19 (by decide)
  unfold zdv at hd ⊢
  rcases hd with ⟨h, g1, g2, g3, g4⟩ | ⟨h, g1⟩ | ⟨h, g1⟩ | ⟨h, g1⟩
  · have ex : zX1 K' (d / 100 % 10) = zX1 K (d / 100 % 10) := by unfold zX1; rw [e _ (by omega)]
    refine ⟨fun j hj => ?_, Or.inl ⟨h, g1, by rw [ex]; exact g2, g3, g4⟩⟩
    unfold zinv
    rw [if_pos h, if_pos h, ex]
    by_cases q : j = d / 100 % 10
    · rw [q, upd_s, upd_s]
    · rw [upd_o _ q, upd_o _ q]; exact e j hj
  · refine ⟨fun j hj => ?_, Or.inr (Or.inl ⟨h, g1⟩)⟩
    unfold zinv zswp
    rw [if_neg (by omega), if_pos h, if_neg (by omega), if_pos h]
    by_cases q : j = 7 + d / 100 % 10 + 1
    · rw [q, upd_s, upd_s]; exact e _ (by omega)
    · rw [upd_o _ q, upd_o _ q]
      by_cases q2 : j = 7 + d / 100 % 10
      · rw [q2, upd_s, upd_s]; exact e _ (by omega)
      · rw [upd_o _ q2, upd_o _ q2]; exact e j hj
  · refine ⟨fun j hj => ?_, Or.inr (Or.inr (Or.inl ⟨h, g1⟩))⟩
    unfold zinv zdec
    rw [if_neg (by omega), if_neg (by omega), if_pos h, if_neg (by omega), if_neg (by omega), if_pos h]
    by_cases q : j = 14 + d / 100 % 10 + 1
    · rw [q, upd_s, upd_s]; exact e _ (by omega)
    · rw [upd_o _ q, upd_o _ q]
      by_cases q2 : j = 14 + d / 100 % 10
      · rw [q2, upd_s, upd_s]; exact e _ (by omega)
      · rw [upd_o _ q2, upd_o _ q2]; exact e j hj
  · refine ⟨fun j hj => ?_, Or.inr (Or.inr (Or.inr ⟨h, by rw [e19]; exact g1⟩))⟩
    unfold zinv
    rw [if_neg (by omega), if_neg (by omega), if_neg (by omega), if_neg (by omega), if_neg (by omega), if_neg (by omega), e19]
    by_cases q : j = 19
    · rw [q, upd_s, upd_s]
    · rw [upd_o _ q, upd_o _ q]; exact e j hj
theorem zLU_c {m : Nat} {L : Nat → Int32} (hm : m ≤ 7) : ∀ {Λ : List Nat} {K K' : Nat → Int32}, zLg m K Λ → zUL L K Λ → (∀ j, j < 20 → K' j = K j) → zLg m K' Λ ∧ zUL L K' Λ
  | [], _, _, _, _, _ => ⟨trivial, trivial⟩
  | d :: ds, K, K', h, g, e => by
    obtain ⟨c1, c2⟩ := zinv_c hm h.1 e
    obtain ⟨i1, i2⟩ := zLU_c hm h.2 g.2.2 c1
    exact ⟨⟨c2, i1⟩, g.1, fun j hj => (g.2.1 j hj).trans (c1 j hj).symm, i2⟩
theorem zKI_c {K K' : Nat → Int32} {m : Nat} {Lo : Option (List zLC)} (h : zKI K m Lo) (e : ∀ j, j < 76 → K' j = K j) (hF : zForce K' Lo) : zKI K' m Lo := by
  obtain ⟨h1, h2, h3, ⟨d, h4, h4'⟩, ⟨q, h5, h5'⟩, -⟩ := h
  have hm := h1.2.1
  exact ⟨zCk_hi h1 (e 73 (by decide)) (fun j hj => e j (by omega)), (zAl_c h2 (fun k hk => e _ (by omega))).1, zInj_c h3 (fun k hk => e _ (by omega)), ⟨d, h4, (e 19 (by decide)).trans h4'⟩, ⟨q, h5, (e 72 (by decide)).trans h5'⟩, hF⟩
theorem zMS_K {σ τ : zm_S} {m : Nat} {Lo : Option (List zLC)} {K K' : Nat → Int32} {Λ : List Nat} (h : zMS σ m Lo K Λ) (e1 : τ.2.1 72 = K') (e2 : ∀ y, 1 ≤ y → y ≤ 5 → τ.2.1 76 y = nI (zrkK K y)) (e3 : ∀ j, j < 336 → τ.2.1 94 j = σ.2.1 94 j) (e4 : τ.1 44 = σ.1 44) (e : ∀ j, j < 76 → K' j = K j) (hF : zForce K' Lo) : zMS τ m Lo K' Λ := by
  obtain ⟨h1, h2, h3, h4, h5, h6, h7⟩ := h
  have hm := h2.1.2.1
  obtain ⟨c1, c2⟩ := zLU_c (K' := K') hm h7 h6 (fun j hj => e j (by omega))
  refine ⟨e1, zKI_c h2 e hF, fun y a b => ?_, h4, e4.trans h5, zUL_c c2 (fun j hj => e3 j (by omega)), c1⟩
  rw [e2 y a b]
  unfold zrkK
  rw [zrkN_c (zAl_c h2.2.1 (fun k hk => e (14 + k) (by omega))).2]
theorem zlaid_at (K C V : Nat → Int32) {N : Nat} (hN : N ≤ 400) (j : Nat) : zlaid K C V 6 N j = if 2484 ≤ j ∧ j < 2484 + N then C (j - 2484) else if 5284 ≤ j ∧ j < 5284 + N then V (j - 5284) else if j = 83 then nI N else K j := by
  unfold zlaid
  rw [zlay_at _ _ _ (by decide) N j hN]
  show (if 2484 ≤ j ∧ j < 2484 + N then C (j - 2484) else if 5284 ≤ j ∧ j < 5284 + N then V (j - 5284) else upd K 83 (nI N) j) = _
  by_cases h : j = 83
  · subst h
    rw [upd_s, if_neg (by omega), if_neg (by omega), if_neg (by omega), if_neg (by omega), if_pos rfl]
  · rw [upd_o _ h, if_neg h]
theorem zSpOs_lt {cd vl : Nat → Nat} {E : Nat} {c : zOC} {cs : List zOC} {i : Nat} (hE : ∀ k, E ≤ k → cd k = 0) (h : zSpOs cd vl E (c :: cs) i) : i < E := by
  obtain ⟨j, h1, -⟩ := h
  exact (zSpO_in hE h1).1
theorem zSpO_ij {cd vl : Nat → Nat} {c : zOC} {i j E : Nat} (hE : ∀ k, E ≤ k → cd k = 0) (h : zSpO cd vl c i j) : i < j := by
  have hI := zIn_S (vl := vl) (o := true) hE 9
  have hIT := zIn_T (vl := vl) (o := true) hE 9
  obtain ⟨k, k', hs, ht, hT⟩ := h
  have h1 : i < k := by
    rcases hs with ⟨-, -, a, b, s0, -, s1, -, s2⟩ | ⟨-, -, s0, -⟩ | ⟨-, -, rfl, -⟩
    · have := (hI _ _ _ s0).1
      have := (hI _ _ _ s1).1
      have := (hI _ _ _ s2).1
      omega
    · have := (hI _ _ _ s0).1; omega
    · omega
  have h2 : k ≤ k' := by
    rcases ht with ⟨-, -, rfl⟩ | ⟨-, -, -, -, -, rfl⟩ <;> omega
  rcases hT with ⟨-, -, rfl⟩ | ⟨-, g⟩
  · omega
  · have := (hIT _ _ _ g).1; omega
section ZL40
variable {l : Launch} {G : zq_G} {D n m E : Nat} {σ : zm_S} {ρ : Nat → zq_E} {post : Option Value → Nat → (Nat → zq_E) → Prop} {cd vl : Nat → Nat} {Lo : Option (List zLC)} {S : zRS}
theorem zm_runs {c : zOC} {i j : Nat} (hD : 81 ≤ D) (hR : zRM σ m Lo S) (hT : zTx S.1 E cd vl) (h46 : σ.1 46 = nI (2400 + i)) (hc : zSpO cd vl c i j) (hd : S.2.2.1 + 20 ≤ 100000)
    (hf : ∀ τ, ztimes m Lo c c.2.2.1 S = none → zRo τ σ → (∀ q, 20 ≤ q → τ.2.1 72 q = S.1 q) → post (some (.int (zb false))) n (zm_h τ ρ))
    (ht : ∀ τ S', ztimes m Lo c c.2.2.1 S = some S' → zRo τ σ → zRM τ m Lo S' → (∀ q, 20 ≤ q → S'.1 q = S.1 q) → S'.2.2.1 ≤ S.2.2.1 + 20 → τ.1 46 = nI (2400 + (j + 1)) → post (some (.int (zb true))) n (zm_h τ ρ)) : zq_Runs l G D 0 0 yX12_runs [.ref 70, .int (nI (2400 + E))] n (zm_h σ ρ) post := by
  refine zq_enter (cc := cX12_runs) (nL := 5) (ret := (some .boolean)) cw_X12_runs (by decide) rfl (Nat.le_of_ble_eq_true rfl) ?_
  refine at_aload_n dX12_runs_0 rfl ?_
  refine at_iload_n dX12_runs_1 rfl ?_
  refine at_iconst dX12_runs_2 (v := nI 0) (by decide) ?_
  rw [show (nI 0 : Int32) = zb false from rfl]
  refine at_callV2 (d := D - 1) dX12_runs_3 mv_X12_509 rfl (Nat.le_of_ble_eq_true rfl) (zq_r0 (by omega) (by omega) (by omega)) ?_
  refine zm_ga (lv := false) (by omega) hR hT h46 hc (fun υ u => ?_)
  obtain ⟨u1, u2, u3, u4, u5⟩ := u
  refine at_aload_n dX12_runs_6 rfl ?_
  refine at_get dX12_runs_7 fl_X12_497 rfl rfl ?_
  rw [u3]
  refine at_istore_n dX12_runs_10 rfl (by decide) ?_
  refine at_aload_n dX12_runs_11 rfl ?_
  refine at_get dX12_runs_12 fl_X12_286 rfl rfl ?_
  rw [u2]
  refine at_istore_n dX12_runs_15 rfl (by decide) ?_
  refine at_iconst dX12_runs_16 (v := nI 0) (by decide) ?_
  refine at_istore dX12_runs_17 (by decide) ?_
  exact zm_runs_loop (by omega) hc hT.2.1 (ztimes m Lo c c.2.2.1 S) S.1 S.2.2.1 hd hf ht c.2.2.1 0 S υ (Nat.zero_add _) (zRM_G hR u1) hT (zRo_G u1) ((u1.1 46 (by omega) (by omega)).trans h46) (fun _ _ => rfl) (by omega) rfl
theorem zm_orders_loop {u : Nat} (hD : 82 ≤ D) (R : zRS ⊕ Nat) (K1 : Nat → Int32)
    (hf : ∀ τ k v, R = .inr k → k ≤ 401 → zRo τ σ → (∀ q, 20 ≤ q → τ.2.1 72 q = K1 q) → zq_At l G (zq_rm D 0 0) mX12_orders (zq_QF G post 0 0) 114 [(0, .ref 70), (1, .int (nI u)), (2, .int v), (3, .int (nI k))] [] n (zm_h τ ρ) 0 0)
    (ht : ∀ τ S' v w, R = .inl S' → zRo τ σ → zRM τ m Lo S' → (∀ q, 20 ≤ q → S'.1 q = K1 q) → zq_At l G (zq_rm D 0 0) mX12_orders (zq_QF G post 0 0) 173 [(0, .ref 70), (1, .int (nI u)), (2, .int v), (3, .int w)] [] n (zm_h τ ρ) 0 0) :
    ∀ (Os : List zOC) (i cnt : Nat) (S : zRS) (τ : zm_S), zSpOs cd vl E Os i → zRM τ m Lo S → zTx S.1 E cd vl → zRo τ σ → τ.1 46 = nI (2400 + i) → (∀ q, 20 ≤ q → S.1 q = K1 q) → S.2.2.1 ≤ 20 * cnt → cnt ≤ i → i ≤ E + 1 → zrunsF m Lo Os cnt S = R → zq_At l G (zq_rm D 0 0) mX12_orders (zq_QF G post 0 0) 95 [(0, .ref 70), (1, .int (nI u)), (2, .int (nI (2400 + E))), (3, .int (nI cnt))] [] n (zm_h τ ρ) 0 0 := by
  intro Os
  induction Os with
  | nil =>
    intro i cnt S τ hO hR hT hRo h46 hK hd hci hiE hQ
    have hO : i = E + 1 := hO
    have hE := hT.1
    subst hQ
    refine at_aload_n dX12_orders_95 rfl ?_
    refine at_get dX12_orders_96 fl_X12_482 rfl rfl ?_
    rw [h46]
    refine at_iload_n dX12_orders_99 rfl ?_
    refine at_geN (tgt := 173) dX12_orders_100 (by decide) (by omega) (by omega) (fun c100 => ?_) (fun c100 => ?_)
    · exact ht τ S _ _ rfl hRo hR hK
    · omega
  | cons c cs ih =>
    intro i cnt S τ hO hR hT hRo h46 hK hd hci hiE hQ
    obtain ⟨j, hc, hcs⟩ := hO
    have hin := zSpO_in hT.2.1 hc
    have hij := zSpO_ij hT.2.1 hc
    have hE := hT.1
    have hQ1 : zrunsF m Lo (c :: cs) cnt S = match ztimes m Lo c c.2.2.1 S with | some S' => zrunsF m Lo cs (cnt + 1) S' | none => .inr cnt := rfl
    rw [hQ1] at hQ
    refine at_aload_n dX12_orders_95 rfl ?_
    refine at_get dX12_orders_96 fl_X12_482 rfl rfl ?_
    rw [h46]
    refine at_iload_n dX12_orders_99 rfl ?_
    refine at_geN (tgt := 173) dX12_orders_100 (by decide) (by omega) (by omega) (fun c100 => ?_) (fun c100 => ?_)
    · omega
    · refine at_aload_n dX12_orders_103 rfl ?_
      refine at_iload_n dX12_orders_104 rfl ?_
      refine at_callV1 (d := D - 1) dX12_orders_105 mv_X12_485 rfl (Nat.le_of_ble_eq_true rfl) (zq_r0 (by omega) (by omega) (by omega)) ?_
      refine zm_runs (by omega) hR hT h46 hc (by omega) (fun υ e t1 t2 => ?_) (fun υ S' e t1 t2 t3 t4 t5 => ?_)
      · rw [e] at hQ
        have hp := hf υ cnt (nI (2400 + E)) hQ.symm (by omega) (zRo_t t1 hRo) (fun q hq => (t2 q hq).trans (hK q hq))
        refine at_if_eqB (tgt := 114) dX12_orders_108 (by decide) (fun c108 => ?_) (fun c108 => ?_)
        · exact hp
        · cases c108
      · rw [e] at hQ
        have hp := ih (j + 1) (cnt + 1) S' υ hcs t2 (zTx_c hT t3) (zRo_t t1 hRo) t5 (fun q hq => (t3 q hq).trans (hK q hq)) (by omega) (by omega) (by omega) hQ
        refine at_if_eqB (tgt := 114) dX12_orders_108 (by decide) (fun c108 => ?_) (fun c108 => ?_)
        · cases c108
        · refine at_goto (tgt := 167) dX12_orders_111 (by decide) ?_
          refine at_iincN dX12_orders_167 rfl (by decide) ?_
          refine at_goto (tgt := 95) dX12_orders_170 (by decide) ?_
          exact hp
theorem zm_or_cp {K : Nat → Int32} (hk : zq_At l G (zq_rm D 0 0) mX12_orders (zq_QF G post 0 0) 52 [(0, .ref 70), (1, .int (nI 336))] [] n (zm_h (zsA σ 95 (zcp (σ.2.1 95) (σ.2.1 94) 0 0 336)) ρ) 0 0) : ∀ f i : Nat, i + f = 336 → zq_At l G (zq_rm D 0 0) mX12_orders (zq_QF G post 0 0) 27 [(0, .ref 70), (1, .int (nI i))] [] n (zm_h (zsA σ 95 (zcp (σ.2.1 95) (σ.2.1 94) 0 0 i)) ρ) 0 0 := by
  intro f
  induction f with
  | zero =>
    intro i hi
    obtain rfl : i = 336 := hi
    refine at_iload_n dX12_orders_27 rfl ?_
    refine at_sipush dX12_orders_28 (v := nI 336) (by decide) ?_
    refine at_geN (tgt := 52) dX12_orders_31 (by decide) (by omega) (by omega) (fun c31 => ?_) (fun c31 => ?_)
    · exact hk
    · omega
  | succ f ih =>
    intro i hi
    have hn := ih (i + 1) (by omega)
    unfold zcp at hn
    rw [Nat.zero_add i] at hn
    refine at_iload_n dX12_orders_27 rfl ?_
    refine at_sipush dX12_orders_28 (v := nI 336) (by decide) ?_
    refine at_geN (tgt := 52) dX12_orders_31 (by decide) (by omega) (by omega) (fun c31 => ?_) (fun c31 => ?_)
    · omega
    · refine at_aload_n dX12_orders_34 rfl ?_
      refine at_get dX12_orders_35 fl_X12_117 rfl rfl ?_
      refine at_iload_n dX12_orders_38 rfl ?_
      refine at_aload_n dX12_orders_39 rfl ?_
      refine at_get dX12_orders_40 fl_X12_114 rfl rfl ?_
      refine at_iload_n dX12_orders_43 rfl ?_
      refine at_mald (a := 94) dX12_orders_44 (by decide) (by decide) (by decide) (by decide) rfl rfl (by show _ < 336; omega) (by decide) ?_
      rw [zsA_o _ (by decide)]
      refine at_mast (a := 95) dX12_orders_45 (by decide) (by decide) (by decide) (by decide) rfl rfl (by show _ < 336; omega) (by decide) ?_
      rw [zsA_a]
      refine at_iincN dX12_orders_46 rfl (by decide) ?_
      refine at_goto (tgt := 27) dX12_orders_49 (by decide) ?_
      exact hn
theorem zm_or_back {a b c : Int32} (hk : zq_At l G (zq_rm D 0 0) mX12_orders (zq_QF G post 0 0) 150 [(0, .ref 70), (1, .int a), (2, .int b), (3, .int c), (4, .int (nI 336))] [] n (zm_h (zsA σ 94 (zcp (σ.2.1 94) (σ.2.1 95) 0 0 336)) ρ) 0 0) : ∀ f i : Nat, i + f = 336 → zq_At l G (zq_rm D 0 0) mX12_orders (zq_QF G post 0 0) 122 [(0, .ref 70), (1, .int a), (2, .int b), (3, .int c), (4, .int (nI i))] [] n (zm_h (zsA σ 94 (zcp (σ.2.1 94) (σ.2.1 95) 0 0 i)) ρ) 0 0 := by
  intro f
  induction f with
  | zero =>
    intro i hi
    obtain rfl : i = 336 := hi
    refine at_iload dX12_orders_122 rfl ?_
    refine at_sipush dX12_orders_124 (v := nI 336) (by decide) ?_
    refine at_geN (tgt := 150) dX12_orders_127 (by decide) (by omega) (by omega) (fun c127 => ?_) (fun c127 => ?_)
    · exact hk
    · omega
  | succ f ih =>
    intro i hi
    have hn := ih (i + 1) (by omega)
    unfold zcp at hn
    rw [Nat.zero_add i] at hn
    refine at_iload dX12_orders_122 rfl ?_
    refine at_sipush dX12_orders_124 (v := nI 336) (by decide) ?_
    refine at_geN (tgt := 150) dX12_orders_127 (by decide) (by omega) (by omega) (fun c127 => ?_) (fun c127 => ?_)
    · omega
    · refine at_aload_n dX12_orders_130 rfl ?_
      refine at_get dX12_orders_131 fl_X12_114 rfl rfl ?_
      refine at_iload dX12_orders_134 rfl ?_
      refine at_aload_n dX12_orders_136 rfl ?_
      refine at_get dX12_orders_137 fl_X12_117 rfl rfl ?_
      refine at_iload dX12_orders_140 rfl ?_
      refine at_mald (a := 95) dX12_orders_142 (by decide) (by decide) (by decide) (by decide) rfl rfl (by show _ < 336; omega) (by decide) ?_
      rw [zsA_o _ (by decide)]
      refine at_mast (a := 94) dX12_orders_143 (by decide) (by decide) (by decide) (by decide) rfl rfl (by show _ < 336; omega) (by decide) ?_
      rw [zsA_a]
      refine at_iincN dX12_orders_144 rfl (by decide) ?_
      refine at_goto (tgt := 122) dX12_orders_147 (by decide) ?_
      exact hn
end ZL40

