/-! ===== calls on both sides: orders ===== -/
theorem dX11_orders_0 : decode cX11_orders 0 = .ok (.aload_n 0, 1) := by decide +kernel
theorem dX11_orders_1 : decode cX11_orders 1 = .ok (.getfield 40, 3) := by decide +kernel
theorem dX11_orders_4 : decode cX11_orders 4 = .ok (.istore_n 1, 1) := by decide +kernel
theorem dX11_orders_5 : decode cX11_orders 5 = .ok (.aload_n 0, 1) := by decide +kernel
theorem dX11_orders_6 : decode cX11_orders 6 = .ok (.iconst 0, 1) := by decide +kernel
theorem dX11_orders_7 : decode cX11_orders 7 = .ok (.putfield 40, 3) := by decide +kernel
theorem dX11_orders_10 : decode cX11_orders 10 = .ok (.aload_n 0, 1) := by decide +kernel
theorem dX11_orders_11 : decode cX11_orders 11 = .ok (.getfield 47, 3) := by decide +kernel
theorem dX11_orders_14 : decode cX11_orders 14 = .ok (.aload_n 0, 1) := by decide +kernel
theorem dX11_orders_15 : decode cX11_orders 15 = .ok (.getfield 36, 3) := by decide +kernel
theorem dX11_orders_18 : decode cX11_orders 18 = .ok (.iload_n 1, 1) := by decide +kernel
theorem dX11_orders_19 : decode cX11_orders 19 = .ok (.iconst 1, 1) := by decide +kernel
theorem dX11_orders_20 : decode cX11_orders 20 = .ok (.invokevirtual 185, 3) := by decide +kernel
theorem dX11_orders_23 : decode cX11_orders 23 = .ok (.astore_n 2, 1) := by decide +kernel
theorem dX11_orders_24 : decode cX11_orders 24 = .ok (.aload_n 0, 1) := by decide +kernel
theorem dX11_orders_25 : decode cX11_orders 25 = .ok (.aload_n 0, 1) := by decide +kernel
theorem dX11_orders_26 : decode cX11_orders 26 = .ok (.getfield 47, 3) := by decide +kernel
theorem dX11_orders_29 : decode cX11_orders 29 = .ok (.invokevirtual 189, 3) := by decide +kernel
theorem dX11_orders_32 : decode cX11_orders 32 = .ok (.putfield 85, 3) := by decide +kernel
theorem dX11_orders_35 : decode cX11_orders 35 = .ok (.aload_n 0, 1) := by decide +kernel
theorem dX11_orders_36 : decode cX11_orders 36 = .ok (.iconst (-1), 1) := by decide +kernel
theorem dX11_orders_37 : decode cX11_orders 37 = .ok (.putfield 88, 3) := by decide +kernel
theorem dX11_orders_40 : decode cX11_orders 40 = .ok (.aload_n 2, 1) := by decide +kernel
theorem dX11_orders_41 : decode cX11_orders 41 = .ok (.ifnonnull 10, 3) := by decide +kernel
theorem dX11_orders_44 : decode cX11_orders 44 = .ok (.aload_n 0, 1) := by decide +kernel
theorem dX11_orders_45 : decode cX11_orders 45 = .ok (.bipush (-6), 2) := by decide +kernel
theorem dX11_orders_47 : decode cX11_orders 47 = .ok (.invokevirtual 103, 3) := by decide +kernel
theorem dX11_orders_50 : decode cX11_orders 50 = .ok (.ireturn, 1) := by decide +kernel
theorem dX11_orders_51 : decode cX11_orders 51 = .ok (.aload_n 0, 1) := by decide +kernel
theorem dX11_orders_52 : decode cX11_orders 52 = .ok (.getfield 20, 3) := by decide +kernel
theorem dX11_orders_55 : decode cX11_orders 55 = .ok (.aload_n 0, 1) := by decide +kernel
theorem dX11_orders_56 : decode cX11_orders 56 = .ok (.getfield 12, 3) := by decide +kernel
theorem dX11_orders_59 : decode cX11_orders 59 = .ok (.invokevirtual 196, 3) := by decide +kernel
theorem dX11_orders_62 : decode cX11_orders 62 = .ok (.aload_n 0, 1) := by decide +kernel
theorem dX11_orders_63 : decode cX11_orders 63 = .ok (.getfield 33, 3) := by decide +kernel
theorem dX11_orders_66 : decode cX11_orders 66 = .ok (.aload_n 0, 1) := by decide +kernel
theorem dX11_orders_67 : decode cX11_orders 67 = .ok (.getfield 29, 3) := by decide +kernel
theorem dX11_orders_70 : decode cX11_orders 70 = .ok (.invokevirtual 200, 3) := by decide +kernel
theorem dX11_orders_73 : decode cX11_orders 73 = .ok (.aload_n 0, 1) := by decide +kernel
theorem dX11_orders_74 : decode cX11_orders 74 = .ok (.getfield 79, 3) := by decide +kernel
theorem dX11_orders_77 : decode cX11_orders 77 = .ok (.iconst 1, 1) := by decide +kernel
theorem dX11_orders_78 : decode cX11_orders 78 = .ok (.iconst 0, 1) := by decide +kernel
theorem dX11_orders_79 : decode cX11_orders 79 = .ok (.iastore, 1) := by decide +kernel
theorem dX11_orders_80 : decode cX11_orders 80 = .ok (.aload_n 0, 1) := by decide +kernel
theorem dX11_orders_81 : decode cX11_orders 81 = .ok (.getfield 79, 3) := by decide +kernel
theorem dX11_orders_84 : decode cX11_orders 84 = .ok (.iconst 2, 1) := by decide +kernel
theorem dX11_orders_85 : decode cX11_orders 85 = .ok (.iconst (-1), 1) := by decide +kernel
theorem dX11_orders_86 : decode cX11_orders 86 = .ok (.iastore, 1) := by decide +kernel
theorem dX11_orders_87 : decode cX11_orders 87 = .ok (.iconst 0, 1) := by decide +kernel
theorem dX11_orders_88 : decode cX11_orders 88 = .ok (.istore_n 3, 1) := by decide +kernel
theorem dX11_orders_89 : decode cX11_orders 89 = .ok (.iload_n 3, 1) := by decide +kernel
theorem dX11_orders_90 : decode cX11_orders 90 = .ok (.aload_n 2, 1) := by decide +kernel
theorem dX11_orders_91 : decode cX11_orders 91 = .ok (.getfield 203, 3) := by decide +kernel
theorem dX11_orders_94 : decode cX11_orders 94 = .ok (.if_icmp .ge 63, 3) := by decide +kernel
theorem dX11_orders_97 : decode cX11_orders 97 = .ok (.iload_n 3, 1) := by decide +kernel
theorem dX11_orders_98 : decode cX11_orders 98 = .ok (.bipush 12, 2) := by decide +kernel
theorem dX11_orders_100 : decode cX11_orders 100 = .ok (.if_icmp .ge 57, 3) := by decide +kernel
theorem dX11_orders_103 : decode cX11_orders 103 = .ok (.aload_n 0, 1) := by decide +kernel
theorem dX11_orders_104 : decode cX11_orders 104 = .ok (.aload_n 2, 1) := by decide +kernel
theorem dX11_orders_105 : decode cX11_orders 105 = .ok (.aload_n 2, 1) := by decide +kernel
theorem dX11_orders_106 : decode cX11_orders 106 = .ok (.getfield 208, 3) := by decide +kernel
theorem dX11_orders_109 : decode cX11_orders 109 = .ok (.iload_n 3, 1) := by decide +kernel
theorem dX11_orders_110 : decode cX11_orders 110 = .ok (.aaload, 1) := by decide +kernel
theorem dX11_orders_111 : decode cX11_orders 111 = .ok (.invokevirtual 212, 3) := by decide +kernel
theorem dX11_orders_114 : decode cX11_orders 114 = .ok (.ifCond .ne 37, 3) := by decide +kernel
theorem dX11_orders_117 : decode cX11_orders 117 = .ok (.aload_n 0, 1) := by decide +kernel
theorem dX11_orders_118 : decode cX11_orders 118 = .ok (.getfield 12, 3) := by decide +kernel
theorem dX11_orders_121 : decode cX11_orders 121 = .ok (.aload_n 0, 1) := by decide +kernel
theorem dX11_orders_122 : decode cX11_orders 122 = .ok (.getfield 20, 3) := by decide +kernel
theorem dX11_orders_125 : decode cX11_orders 125 = .ok (.invokevirtual 196, 3) := by decide +kernel
theorem dX11_orders_128 : decode cX11_orders 128 = .ok (.aload_n 0, 1) := by decide +kernel
theorem dX11_orders_129 : decode cX11_orders 129 = .ok (.getfield 29, 3) := by decide +kernel
theorem dX11_orders_132 : decode cX11_orders 132 = .ok (.aload_n 0, 1) := by decide +kernel
theorem dX11_orders_133 : decode cX11_orders 133 = .ok (.getfield 33, 3) := by decide +kernel
theorem dX11_orders_136 : decode cX11_orders 136 = .ok (.invokevirtual 200, 3) := by decide +kernel
theorem dX11_orders_139 : decode cX11_orders 139 = .ok (.aload_n 0, 1) := by decide +kernel
theorem dX11_orders_140 : decode cX11_orders 140 = .ok (.iload_n 3, 1) := by decide +kernel
theorem dX11_orders_141 : decode cX11_orders 141 = .ok (.putfield 88, 3) := by decide +kernel
theorem dX11_orders_144 : decode cX11_orders 144 = .ok (.aload_n 0, 1) := by decide +kernel
theorem dX11_orders_145 : decode cX11_orders 145 = .ok (.bipush (-3), 2) := by decide +kernel
theorem dX11_orders_147 : decode cX11_orders 147 = .ok (.invokevirtual 103, 3) := by decide +kernel
theorem dX11_orders_150 : decode cX11_orders 150 = .ok (.ireturn, 1) := by decide +kernel
theorem dX11_orders_151 : decode cX11_orders 151 = .ok (.iinc 3 1, 3) := by decide +kernel
theorem dX11_orders_154 : decode cX11_orders 154 = .ok (.goto (-65), 3) := by decide +kernel
theorem dX11_orders_157 : decode cX11_orders 157 = .ok (.aload_n 0, 1) := by decide +kernel
theorem dX11_orders_158 : decode cX11_orders 158 = .ok (.aload_n 0, 1) := by decide +kernel
theorem dX11_orders_159 : decode cX11_orders 159 = .ok (.getfield 79, 3) := by decide +kernel
theorem dX11_orders_162 : decode cX11_orders 162 = .ok (.iconst 1, 1) := by decide +kernel
theorem dX11_orders_163 : decode cX11_orders 163 = .ok (.iaload, 1) := by decide +kernel
theorem dX11_orders_164 : decode cX11_orders 164 = .ok (.invokevirtual 117, 3) := by decide +kernel
theorem dX11_orders_167 : decode cX11_orders 167 = .ok (.ireturn, 1) := by decide +kernel
abbrev mX11_orders : zq_M := (cX11_orders, RX11, "orders", (some .int), 4)
section ZK30
variable {l : Launch} {G : zq_G} {D n n' b : Nat} {κ κ' : zl_S} {σ τ : zm_S} {ρ ρ' : Nat → zq_E} {K K' : Nat → Int32} {m hn t z : Nat} {Ls : Nat → List zLC} {Λ Λ' : List Nat} {post : Option Value → Nat → (Nat → zq_E) → Prop} {S : zRS} {Lo : Option (List zLC)}
/-- the text of orders is laid where no law lies -/
theorem zKW_KL {T : Nat → Int32} (g : zKW K m hn t Ls) (hN : (zTok T z).length ≤ 400) : zKW (zKL K T z) m hn t Ls := by
  have lo : ∀ j, j < 83 → zKL K T z j = K j := fun j hj => zKL_lo hN hj
  have mid : ∀ u k, u < 6 → k < 400 → zKL K T z (84 + (400 * u + k)) = K (84 + (400 * u + k)) ∧ zKL K T z (2884 + (400 * u + k)) = K (2884 + (400 * u + k)) := fun u k hu hk => by
    unfold zKL
    rw [zlaid_at _ _ _ hN, zlaid_at _ _ _ hN, if_neg (by omega), if_neg (by omega), if_neg (by omega), if_neg (by omega), if_neg (by omega), if_neg (by omega)]
    exact ⟨rfl, rfl⟩
  obtain ⟨g4, g5, g6, g7⟩ := g.2.2.2.2.2.2.2.2
  refine zKW_g g (fun j hj => lo j (by omega)) (lo 73 (by decide)) ?_ ?_ ?_ (zKW_sd g (fun j j1 j2 => lo j (by omega))) (zKW_hh g (fun j j1 j2 => lo j (by omega)) (lo 74 (by decide))) ⟨(lo 75 (by decide)).trans g4, g5, by rw [lo 76 (by decide)]; exact g6, fun u hu => ?_⟩
  · rw [lo 19 (by decide)]; exact g.2.2.2.1
  · rw [lo 71 (by decide)]; exact g.2.2.2.2.1
  · rw [lo 72 (by decide)]; exact g.2.2.2.2.2.1
  · obtain ⟨E, cd, vl, q1, q2, q3, q4, q5, q6⟩ := g7 u hu
    exact ⟨E, cd, vl, q1, (lo _ (by omega)).trans q2, q3, q4, fun k hk => ⟨(mid u k (by omega) (by omega)).1.trans (q5 k hk).1, (mid u k (by omega) (by omega)).2.trans (q5 k hk).2⟩, q6⟩
/-- at which clause orders stopped -/
theorem zIV_stop (h : zIV n κ σ ρ K m hn t z Ls Λ) (v : Int32) : zIV n (zl_si κ 8 16 v) (zm_si σ 45 v) ρ K m hn t z Ls Λ := by
  obtain ⟨⟨a1, a2, a3, a4⟩, b1, c1, d1, e1, f1, g1, i1⟩ := h
  have k1 : ∀ o, o ≠ 8 → (zl_si κ 8 16 v).1 o = κ.1 o := fun o ho => zsi2_o κ ho _ _
  have k8 : ∀ j, j ≠ 16 → (zl_si κ 8 16 v).1 8 j = κ.1 8 j := fun j hj => zsi2_k κ 8 hj _
  have s1 : ∀ k, k ≠ 45 → (zm_si σ 45 v).1 k = σ.1 k := fun k hk => zsi_o σ hk _
  refine ⟨⟨a1, a2, a3, a4⟩, b1, zQc_f c1 (k1 9 (by decide)) (fun _ _ _ => rfl) rfl, ?_, ?_, ?_, ?_, i1⟩
  · unfold zLG at d1 ⊢
    rw [k1 43 (by decide), s1 44 (by decide)]
    exact d1
  · unfold zTT at e1 ⊢
    rw [k8 7 (by decide), s1 14 (by decide)]
    exact e1
  · obtain ⟨x1, x2, x3, x4, x5⟩ := f1
    exact ⟨by rw [k8 18 (by decide), s1 0 (by decide)]; exact x1, by rw [k8 15 (by decide), s1 15 (by decide)]; exact x2, by rw [show (zl_si κ 8 16 v).1 8 16 = v from zsi2_s κ 8 16 v, show (zm_si σ 45 v).1 45 = v from zsi_s σ 45 v], by rw [k8 17 (by decide), s1 7 (by decide)]; exact x4, x5⟩
  · unfold zPP at g1 ⊢
    rw [k1 32 (by decide), s1 53 (by decide)]
    exact g1
theorem zMf_o (σ : zm_S) (v : Int32) (q : Nat) : zMf (zref (zm_si (zm_si (zm_si σ 45 (-1)) 14 0) 15 v) q) (zref (zm_si (zm_si (zm_si σ 14 0) 15 v) 45 (-1)) q) := ⟨fun k hk => by rcases hk with rfl | rfl | rfl | rfl | rfl | rfl | rfl <;> rfl, fun _ _ => rfl⟩
theorem zMf_t {σ1 σ2 σ3 : zm_S} (h : zMf σ1 σ2) (g : zMf σ2 σ3) : zMf σ1 σ3 := ⟨fun k hk => (h.1 k hk).trans (g.1 k hk), fun a ha => (h.2 a ha).trans (g.2 a ha)⟩
theorem zc_or_loop {tx cl cp sz N : Nat} {cd : Nat → Nat × Nat} {F : Nat → Nat → Int32} {g : Nat → Option Nat} {cr : Nat → Nat} {K0 : Nat → Int32} (hD : 16 ≤ D) (hT : zTxc (zm_h σ ρ) tx cl cp sz) (hcp : zCp (zm_h σ ρ) cp N cd) (hcl : 70 ≤ cl) (hsz : sz ≤ 12) (hg : zm_h σ ρ cl = .inl (4, 12, .inr (.inr (.inr (.inr g)))))
    (hF : ∀ i, i < sz → g i = some (cr i) ∧ 70 ≤ cr i ∧ zm_h σ ρ (cr i) = .inr (1, [.int (F i 0), .int (F i 1), .int (F i 2), .int (F i 3), .int (F i 4), .int (F i 5)])) (R : zRS ⊕ Nat)
    (hno : ∀ κ' i, R = .inr i → i < 12 → zOf κ' κ → zq_At l G (zq_rm D 15 887) mX11_orders (zq_QF G post 15 887) 117 [(0, .ref 8), (2, .ref tx), (3, .int (nI i))] [] n (zl_h κ' (zm_h σ ρ)) 15 887)
    (hok : ∀ κ' S', R = .inl S' → zOf κ' κ → zRC κ' ρ n m hn t Ls S' → (∀ q, 20 ≤ q → S'.1 q = K0 q) → post (some (.int (nI S'.2.2.1))) n (zl_h (zl_si κ' 8 18 (nI 0)) (zm_h σ ρ))) :
    ∀ (Os : List zOC) (i : Nat) (S : zRS) (κ' : zl_S), (∀ j c, Os[j]? = some c → zOcl cd N (F (i + j)) c) → i + Os.length = sz → zRC κ' ρ n m hn t Ls S → zLoK S.1 Ls = Lo → (∀ q, 20 ≤ q → S.1 q = K0 q) → zOf κ' κ → S.2.2.1 ≤ 20 * i → zrunsF m Lo Os i S = R → zq_At l G (zq_rm D 15 887) mX11_orders (zq_QF G post 15 887) 89 [(0, .ref 8), (2, .ref tx), (3, .int (nI i))] [] n (zl_h κ' (zm_h σ ρ)) 15 887 := by
  have hcx : ∀ κ', zl_h κ' (zm_h σ ρ) cl = .inl (4, 12, .inr (.inr (.inr (.inr g)))) := fun κ' => (zl_hi _ _ (Or.inr hcl)).trans hg
  have htx : ∀ κ', zl_h κ' (zm_h σ ρ) tx = .inr (10, [.ref cl, .int (nI sz), .ref cp]) := fun κ' => (zl_hi _ _ (Or.inr hT.1)).trans hT.2
  intro Os
  induction Os with
  | nil =>
    intro i S κ' hC hi hR hL hq hof hd hQ
    have hi : i = sz := hi
    have hp := hok κ' S hQ.symm hof hR hq
    have r2 := hR.2.1
    refine at_iload_n dX11_orders_89 rfl ?_
    refine at_aload_n dX11_orders_90 rfl ?_
    refine at_get dX11_orders_91 fl_X11_203 (htx _) rfl ?_
    refine at_geN (tgt := 157) dX11_orders_94 (by decide) (by omega) (by omega) (fun c94 => ?_) (fun c94 => ?_)
    · refine at_aload_n dX11_orders_157 rfl ?_
      refine at_aload_n dX11_orders_158 rfl ?_
      refine at_get dX11_orders_159 fl_X11_79 (zl_o rfl) rfl ?_
      refine at_iconst dX11_orders_162 (v := nI 1) (by decide) ?_
      refine at_lald2 (a := 68) dX11_orders_163 rfl rfl (by show _ < 19; omega) (by decide) ?_
      rw [r2]
      refine at_callV1 (d := D - 1) dX11_orders_164 mv_X11_117 (zl_o rfl) (Nat.le_of_ble_eq_true rfl) (zq_r0 (by omega) (by omega) (by omega)) ?_
      refine zc_accept ?_
      refine at_iret dX11_orders_167 rfl (by omega) (by omega) ?_
      exact hp
    · omega
  | cons c cs ih =>
    intro i S κ' hC hi hR hL hq hof hd hQ
    rw [List.length_cons] at hi
    obtain ⟨f1, f2, f3⟩ := hF i (by omega)
    have hO : zOcl cd N (F i) c := hC 0 c rfl
    have hQ1 : zrunsF m Lo (c :: cs) i S = match ztimes m Lo c c.2.2.1 S with | some S' => zrunsF m Lo cs (i + 1) S' | none => .inr i := rfl
    rw [hQ1] at hQ
    refine at_iload_n dX11_orders_89 rfl ?_
    refine at_aload_n dX11_orders_90 rfl ?_
    refine at_get dX11_orders_91 fl_X11_203 (htx _) rfl ?_
    refine at_geN (tgt := 157) dX11_orders_94 (by decide) (by omega) (by omega) (fun c94 => ?_) (fun c94 => ?_)
    · omega
    · refine at_iload_n dX11_orders_97 rfl ?_
      refine at_bipush dX11_orders_98 (v := nI 12) (by decide) ?_
      refine at_geN (tgt := 157) dX11_orders_100 (by decide) (by omega) (by omega) (fun c100 => ?_) (fun c100 => ?_)
      · omega
      · refine at_aload_n dX11_orders_103 rfl ?_
        refine at_aload_n dX11_orders_104 rfl ?_
        refine at_aload_n dX11_orders_105 rfl ?_
        refine at_get dX11_orders_106 fl_X11_208 (htx _) rfl ?_
        refine at_iload_n dX11_orders_109 rfl ?_
        refine at_aaldN (j := i) dX11_orders_110 (hcx _) (by decide) (fun _ => rfl) (by decide) rfl (by omega) ?_
        rw [f1, show va_rf (some (cr i)) = Value.ref (cr i) from rfl]
        refine at_callV2 (d := D - 1) dX11_orders_111 mv_X11_212 (zl_o rfl) (Nat.le_of_ble_eq_true rfl) (zq_r0 (by omega) (by omega) (by omega)) ?_
        refine zc_runClause (by omega) hT hcp ⟨f2, f3⟩ hO (by omega) hR hL (fun κ5 e s1 => ?_) (fun κ5 S' e s1 s2 s3 s4 => ?_)
        · rw [e] at hQ
          have hgo := hno κ5 i hQ.symm (by omega) (zOf_t s1 hof)
          refine at_if_neN (tgt := 151) dX11_orders_114 (by decide) (by omega) (fun c114 => ?_) (fun c114 => ?_)
          · omega
          · exact at_lv [0, 2, 3] hgo
        · rw [e] at hQ
          have hL' : zLoK S'.1 Ls = Lo := by rw [← hL]; unfold zLoK; rw [s3 76 (by decide)]
          have hgo := ih (i + 1) S' κ5 (fun j c' hj => by rw [show i + 1 + j = i + (j + 1) by omega]; exact hC (j + 1) c' hj) (by omega) s2 hL' (fun q h20 => (s3 q h20).trans (hq q h20)) (zOf_t s1 hof) (by omega) hQ
          refine at_if_neN (tgt := 151) dX11_orders_114 (by decide) (by omega) (fun c114 => ?_) (fun c114 => ?_)
          · refine at_iincN dX11_orders_151 rfl (by decide) ?_
            refine at_goto (tgt := 89) dX11_orders_154 (by decide) ?_
            exact at_lv [0, 2, 3] hgo
          · omega
end ZK30

