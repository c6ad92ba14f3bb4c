/-! ===== calls on both sides: weeks by draws ===== -/
theorem dX11_weeks_0 : decode cX11_weeks 0 = .ok (.iload_n 1, 1) := by decide +kernel
theorem dX11_weeks_1 : decode cX11_weeks 1 = .ok (.ifCond .lt 21, 3) := by decide +kernel
theorem dX11_weeks_4 : decode cX11_weeks 4 = .ok (.iload_n 1, 1) := by decide +kernel
theorem dX11_weeks_5 : decode cX11_weeks 5 = .ok (.ldc_w 342, 3) := by decide +kernel
theorem dX11_weeks_8 : decode cX11_weeks 8 = .ok (.if_icmp .gt 14, 3) := by decide +kernel
theorem dX11_weeks_11 : decode cX11_weeks 11 = .ok (.iload_n 2, 1) := by decide +kernel
theorem dX11_weeks_12 : decode cX11_weeks 12 = .ok (.iconst 1, 1) := by decide +kernel
theorem dX11_weeks_13 : decode cX11_weeks 13 = .ok (.if_icmp .lt 9, 3) := by decide +kernel
theorem dX11_weeks_16 : decode cX11_weeks 16 = .ok (.iload_n 2, 1) := by decide +kernel
theorem dX11_weeks_17 : decode cX11_weeks 17 = .ok (.bipush 60, 2) := by decide +kernel
theorem dX11_weeks_19 : decode cX11_weeks 19 = .ok (.if_icmp .le 9, 3) := by decide +kernel
theorem dX11_weeks_22 : decode cX11_weeks 22 = .ok (.aload_n 0, 1) := by decide +kernel
theorem dX11_weeks_23 : decode cX11_weeks 23 = .ok (.iconst (-1), 1) := by decide +kernel
theorem dX11_weeks_24 : decode cX11_weeks 24 = .ok (.invokevirtual 103, 3) := by decide +kernel
theorem dX11_weeks_27 : decode cX11_weeks 27 = .ok (.ireturn, 1) := by decide +kernel
theorem dX11_weeks_28 : decode cX11_weeks 28 = .ok (.aload_n 0, 1) := by decide +kernel
theorem dX11_weeks_29 : decode cX11_weeks 29 = .ok (.getfield 12, 3) := by decide +kernel
theorem dX11_weeks_32 : decode cX11_weeks 32 = .ok (.getfield 288, 3) := by decide +kernel
theorem dX11_weeks_35 : decode cX11_weeks 35 = .ok (.ifCond .ne 10, 3) := by decide +kernel
theorem dX11_weeks_38 : decode cX11_weeks 38 = .ok (.aload_n 0, 1) := by decide +kernel
theorem dX11_weeks_39 : decode cX11_weeks 39 = .ok (.bipush (-3), 2) := by decide +kernel
theorem dX11_weeks_41 : decode cX11_weeks 41 = .ok (.invokevirtual 103, 3) := by decide +kernel
theorem dX11_weeks_44 : decode cX11_weeks 44 = .ok (.ireturn, 1) := by decide +kernel
theorem dX11_weeks_45 : decode cX11_weeks 45 = .ok (.aload_n 0, 1) := by decide +kernel
theorem dX11_weeks_46 : decode cX11_weeks 46 = .ok (.getfield 23, 3) := by decide +kernel
theorem dX11_weeks_49 : decode cX11_weeks 49 = .ok (.aload_n 0, 1) := by decide +kernel
theorem dX11_weeks_50 : decode cX11_weeks 50 = .ok (.getfield 12, 3) := by decide +kernel
theorem dX11_weeks_53 : decode cX11_weeks 53 = .ok (.invokevirtual 196, 3) := by decide +kernel
theorem dX11_weeks_56 : decode cX11_weeks 56 = .ok (.iload_n 1, 1) := by decide +kernel
theorem dX11_weeks_57 : decode cX11_weeks 57 = .ok (.istore_n 3, 1) := by decide +kernel
theorem dX11_weeks_58 : decode cX11_weeks 58 = .ok (.iconst 0, 1) := by decide +kernel
theorem dX11_weeks_59 : decode cX11_weeks 59 = .ok (.istore 4, 2) := by decide +kernel
theorem dX11_weeks_61 : decode cX11_weeks 61 = .ok (.iconst 0, 1) := by decide +kernel
theorem dX11_weeks_62 : decode cX11_weeks 62 = .ok (.istore 5, 2) := by decide +kernel
theorem dX11_weeks_64 : decode cX11_weeks 64 = .ok (.iload 5, 2) := by decide +kernel
theorem dX11_weeks_66 : decode cX11_weeks 66 = .ok (.iload_n 2, 1) := by decide +kernel
theorem dX11_weeks_67 : decode cX11_weeks 67 = .ok (.if_icmp .ge 93, 3) := by decide +kernel
theorem dX11_weeks_70 : decode cX11_weeks 70 = .ok (.aload_n 0, 1) := by decide +kernel
theorem dX11_weeks_71 : decode cX11_weeks 71 = .ok (.getfield 23, 3) := by decide +kernel
theorem dX11_weeks_74 : decode cX11_weeks 74 = .ok (.getfield 172, 3) := by decide +kernel
theorem dX11_weeks_77 : decode cX11_weeks 77 = .ok (.iconst 0, 1) := by decide +kernel
theorem dX11_weeks_78 : decode cX11_weeks 78 = .ok (.iaload, 1) := by decide +kernel
theorem dX11_weeks_79 : decode cX11_weeks 79 = .ok (.sipush 999, 3) := by decide +kernel
theorem dX11_weeks_82 : decode cX11_weeks 82 = .ok (.if_icmp .ge 78, 3) := by decide +kernel
theorem dX11_weeks_85 : decode cX11_weeks 85 = .ok (.iload_n 3, 1) := by decide +kernel
theorem dX11_weeks_86 : decode cX11_weeks 86 = .ok (.invokestatic 343, 3) := by decide +kernel
theorem dX11_weeks_89 : decode cX11_weeks 89 = .ok (.istore 6, 2) := by decide +kernel
theorem dX11_weeks_91 : decode cX11_weeks 91 = .ok (.iload 6, 2) := by decide +kernel
theorem dX11_weeks_93 : decode cX11_weeks 93 = .ok (.invokestatic 343, 3) := by decide +kernel
theorem dX11_weeks_96 : decode cX11_weeks 96 = .ok (.istore 7, 2) := by decide +kernel
theorem dX11_weeks_98 : decode cX11_weeks 98 = .ok (.iload 7, 2) := by decide +kernel
theorem dX11_weeks_100 : decode cX11_weeks 100 = .ok (.invokestatic 343, 3) := by decide +kernel
theorem dX11_weeks_103 : decode cX11_weeks 103 = .ok (.istore_n 3, 1) := by decide +kernel
theorem dX11_weeks_104 : decode cX11_weeks 104 = .ok (.aload_n 0, 1) := by decide +kernel
theorem dX11_weeks_105 : decode cX11_weeks 105 = .ok (.iload 6, 2) := by decide +kernel
theorem dX11_weeks_107 : decode cX11_weeks 107 = .ok (.aload_n 0, 1) := by decide +kernel
theorem dX11_weeks_108 : decode cX11_weeks 108 = .ok (.getfield 12, 3) := by decide +kernel
theorem dX11_weeks_111 : decode cX11_weeks 111 = .ok (.getfield 288, 3) := by decide +kernel
theorem dX11_weeks_114 : decode cX11_weeks 114 = .ok (.irem, 1) := by decide +kernel
theorem dX11_weeks_115 : decode cX11_weeks 115 = .ok (.iload 7, 2) := by decide +kernel
theorem dX11_weeks_117 : decode cX11_weeks 117 = .ok (.iconst 4, 1) := by decide +kernel
theorem dX11_weeks_118 : decode cX11_weeks 118 = .ok (.irem, 1) := by decide +kernel
theorem dX11_weeks_119 : decode cX11_weeks 119 = .ok (.iload_n 3, 1) := by decide +kernel
theorem dX11_weeks_120 : decode cX11_weeks 120 = .ok (.iconst 5, 1) := by decide +kernel
theorem dX11_weeks_121 : decode cX11_weeks 121 = .ok (.irem, 1) := by decide +kernel
theorem dX11_weeks_122 : decode cX11_weeks 122 = .ok (.iconst 1, 1) := by decide +kernel
theorem dX11_weeks_123 : decode cX11_weeks 123 = .ok (.iadd, 1) := by decide +kernel
theorem dX11_weeks_124 : decode cX11_weeks 124 = .ok (.invokevirtual 346, 3) := by decide +kernel
theorem dX11_weeks_127 : decode cX11_weeks 127 = .ok (.aload_n 0, 1) := by decide +kernel
theorem dX11_weeks_128 : decode cX11_weeks 128 = .ok (.getfield 23, 3) := by decide +kernel
theorem dX11_weeks_131 : decode cX11_weeks 131 = .ok (.getfield 172, 3) := by decide +kernel
theorem dX11_weeks_134 : decode cX11_weeks 134 = .ok (.iconst 0, 1) := by decide +kernel
theorem dX11_weeks_135 : decode cX11_weeks 135 = .ok (.dup2, 1) := by decide +kernel
theorem dX11_weeks_136 : decode cX11_weeks 136 = .ok (.iaload, 1) := by decide +kernel
theorem dX11_weeks_137 : decode cX11_weeks 137 = .ok (.iconst 1, 1) := by decide +kernel
theorem dX11_weeks_138 : decode cX11_weeks 138 = .ok (.iadd, 1) := by decide +kernel
theorem dX11_weeks_139 : decode cX11_weeks 139 = .ok (.iastore, 1) := by decide +kernel
theorem dX11_weeks_140 : decode cX11_weeks 140 = .ok (.aload_n 0, 1) := by decide +kernel
theorem dX11_weeks_141 : decode cX11_weeks 141 = .ok (.getfield 23, 3) := by decide +kernel
theorem dX11_weeks_144 : decode cX11_weeks 144 = .ok (.iconst (-1), 1) := by decide +kernel
theorem dX11_weeks_145 : decode cX11_weeks 145 = .ok (.invokevirtual 273, 3) := by decide +kernel
theorem dX11_weeks_148 : decode cX11_weeks 148 = .ok (.ifCond .ne 6, 3) := by decide +kernel
theorem dX11_weeks_151 : decode cX11_weeks 151 = .ok (.iinc 4 1, 3) := by decide +kernel
theorem dX11_weeks_154 : decode cX11_weeks 154 = .ok (.iinc 5 1, 3) := by decide +kernel
theorem dX11_weeks_157 : decode cX11_weeks 157 = .ok (.goto (-93), 3) := by decide +kernel
theorem dX11_weeks_160 : decode cX11_weeks 160 = .ok (.aload_n 0, 1) := by decide +kernel
theorem dX11_weeks_161 : decode cX11_weeks 161 = .ok (.iload 4, 2) := by decide +kernel
theorem dX11_weeks_163 : decode cX11_weeks 163 = .ok (.invokevirtual 117, 3) := by decide +kernel
theorem dX11_weeks_166 : decode cX11_weeks 166 = .ok (.ireturn, 1) := by decide +kernel
abbrev mX11_weeks : zq_M := (cX11_weeks, RX11, "weeks", (some .int), 8)
theorem dX11_draw_0 : decode cX11_draw 0 = .ok (.iload_n 0, 1) := by decide +kernel
theorem dX11_draw_1 : decode cX11_draw 1 = .ok (.i2l, 1) := by decide +kernel
theorem dX11_draw_2 : decode cX11_draw 2 = .ok (.ldc2_w 399, 3) := by decide +kernel
theorem dX11_draw_5 : decode cX11_draw 5 = .ok (.lmul, 1) := by decide +kernel
theorem dX11_draw_6 : decode cX11_draw 6 = .ok (.ldc2_w 401, 3) := by decide +kernel
theorem dX11_draw_9 : decode cX11_draw 9 = .ok (.ladd, 1) := by decide +kernel
theorem dX11_draw_10 : decode cX11_draw 10 = .ok (.ldc2_w 403, 3) := by decide +kernel
theorem dX11_draw_13 : decode cX11_draw 13 = .ok (.lrem, 1) := by decide +kernel
theorem dX11_draw_14 : decode cX11_draw 14 = .ok (.l2i, 1) := by decide +kernel
theorem dX11_draw_15 : decode cX11_draw 15 = .ok (.ireturn, 1) := by decide +kernel
abbrev mX11_draw : zq_M := (cX11_draw, RX11, "draw", (some .int), 1)
theorem dX11_drawnDeed_0 : decode cX11_drawnDeed 0 = .ok (.iload_n 2, 1) := by decide +kernel
theorem dX11_drawnDeed_1 : decode cX11_drawnDeed 1 = .ok (.iconst 1, 1) := by decide +kernel
theorem dX11_drawnDeed_2 : decode cX11_drawnDeed 2 = .ok (.if_icmp .gt 25, 3) := by decide +kernel
theorem dX11_drawnDeed_5 : decode cX11_drawnDeed 5 = .ok (.aload_n 0, 1) := by decide +kernel
theorem dX11_drawnDeed_6 : decode cX11_drawnDeed 6 = .ok (.getfield 23, 3) := by decide +kernel
theorem dX11_drawnDeed_9 : decode cX11_drawnDeed 9 = .ok (.iload_n 1, 1) := by decide +kernel
theorem dX11_drawnDeed_10 : decode cX11_drawnDeed 10 = .ok (.iconst 1, 1) := by decide +kernel
theorem dX11_drawnDeed_11 : decode cX11_drawnDeed 11 = .ok (.iadd, 1) := by decide +kernel
theorem dX11_drawnDeed_12 : decode cX11_drawnDeed 12 = .ok (.invokevirtual 120, 3) := by decide +kernel
theorem dX11_drawnDeed_15 : decode cX11_drawnDeed 15 = .ok (.ifCond .eq 11, 3) := by decide +kernel
theorem dX11_drawnDeed_18 : decode cX11_drawnDeed 18 = .ok (.aload_n 0, 1) := by decide +kernel
theorem dX11_drawnDeed_19 : decode cX11_drawnDeed 19 = .ok (.getfield 23, 3) := by decide +kernel
theorem dX11_drawnDeed_22 : decode cX11_drawnDeed 22 = .ok (.iload_n 1, 1) := by decide +kernel
theorem dX11_drawnDeed_23 : decode cX11_drawnDeed 23 = .ok (.invokevirtual 257, 3) := by decide +kernel
theorem dX11_drawnDeed_26 : decode cX11_drawnDeed 26 = .ok (.return_, 1) := by decide +kernel
theorem dX11_drawnDeed_27 : decode cX11_drawnDeed 27 = .ok (.iload_n 2, 1) := by decide +kernel
theorem dX11_drawnDeed_28 : decode cX11_drawnDeed 28 = .ok (.iconst 2, 1) := by decide +kernel
theorem dX11_drawnDeed_29 : decode cX11_drawnDeed 29 = .ok (.if_icmp .ne 31, 3) := by decide +kernel
theorem dX11_drawnDeed_32 : decode cX11_drawnDeed 32 = .ok (.aload_n 0, 1) := by decide +kernel
theorem dX11_drawnDeed_33 : decode cX11_drawnDeed 33 = .ok (.getfield 23, 3) := by decide +kernel
theorem dX11_drawnDeed_36 : decode cX11_drawnDeed 36 = .ok (.iload_n 1, 1) := by decide +kernel
theorem dX11_drawnDeed_37 : decode cX11_drawnDeed 37 = .ok (.invokevirtual 120, 3) := by decide +kernel
theorem dX11_drawnDeed_40 : decode cX11_drawnDeed 40 = .ok (.ifCond .eq 20, 3) := by decide +kernel
theorem dX11_drawnDeed_43 : decode cX11_drawnDeed 43 = .ok (.aload_n 0, 1) := by decide +kernel
theorem dX11_drawnDeed_44 : decode cX11_drawnDeed 44 = .ok (.getfield 23, 3) := by decide +kernel
theorem dX11_drawnDeed_47 : decode cX11_drawnDeed 47 = .ok (.getfield 123, 3) := by decide +kernel
theorem dX11_drawnDeed_50 : decode cX11_drawnDeed 50 = .ok (.iload_n 1, 1) := by decide +kernel
theorem dX11_drawnDeed_51 : decode cX11_drawnDeed 51 = .ok (.iaload, 1) := by decide +kernel
theorem dX11_drawnDeed_52 : decode cX11_drawnDeed 52 = .ok (.iconst 0, 1) := by decide +kernel
theorem dX11_drawnDeed_53 : decode cX11_drawnDeed 53 = .ok (.invokestatic 150, 3) := by decide +kernel
theorem dX11_drawnDeed_56 : decode cX11_drawnDeed 56 = .ok (.iload_n 3, 1) := by decide +kernel
theorem dX11_drawnDeed_57 : decode cX11_drawnDeed 57 = .ok (.if_icmp .ne 4, 3) := by decide +kernel
theorem dX11_drawnDeed_60 : decode cX11_drawnDeed 60 = .ok (.return_, 1) := by decide +kernel
theorem dX11_drawnDeed_61 : decode cX11_drawnDeed 61 = .ok (.aload_n 0, 1) := by decide +kernel
theorem dX11_drawnDeed_62 : decode cX11_drawnDeed 62 = .ok (.getfield 54, 3) := by decide +kernel
theorem dX11_drawnDeed_65 : decode cX11_drawnDeed 65 = .ok (.aload_n 0, 1) := by decide +kernel
theorem dX11_drawnDeed_66 : decode cX11_drawnDeed 66 = .ok (.getfield 23, 3) := by decide +kernel
theorem dX11_drawnDeed_69 : decode cX11_drawnDeed 69 = .ok (.aload_n 0, 1) := by decide +kernel
theorem dX11_drawnDeed_70 : decode cX11_drawnDeed 70 = .ok (.getfield 23, 3) := by decide +kernel
theorem dX11_drawnDeed_73 : decode cX11_drawnDeed 73 = .ok (.invokevirtual 129, 3) := by decide +kernel
theorem dX11_drawnDeed_76 : decode cX11_drawnDeed 76 = .ok (.iload_n 1, 1) := by decide +kernel
theorem dX11_drawnDeed_77 : decode cX11_drawnDeed 77 = .ok (.invokevirtual 137, 3) := by decide +kernel
theorem dX11_drawnDeed_80 : decode cX11_drawnDeed 80 = .ok (.ifCond .ne 13, 3) := by decide +kernel
theorem dX11_drawnDeed_83 : decode cX11_drawnDeed 83 = .ok (.aload_n 0, 1) := by decide +kernel
theorem dX11_drawnDeed_84 : decode cX11_drawnDeed 84 = .ok (.getfield 23, 3) := by decide +kernel
theorem dX11_drawnDeed_87 : decode cX11_drawnDeed 87 = .ok (.iload_n 1, 1) := by decide +kernel
theorem dX11_drawnDeed_88 : decode cX11_drawnDeed 88 = .ok (.iconst 0, 1) := by decide +kernel
theorem dX11_drawnDeed_89 : decode cX11_drawnDeed 89 = .ok (.iload_n 3, 1) := by decide +kernel
theorem dX11_drawnDeed_90 : decode cX11_drawnDeed 90 = .ok (.invokevirtual 254, 3) := by decide +kernel
theorem dX11_drawnDeed_93 : decode cX11_drawnDeed 93 = .ok (.return_, 1) := by decide +kernel
abbrev mX11_drawnDeed : zq_M := (cX11_drawnDeed, RX11, "drawnDeed", none, 4)
/-- alike but for the paper -/
def zPf (κ' κ : zl_S) : Prop := (∀ o, o ≠ 32 → κ'.1 o = κ.1 o) ∧ (∀ a, ¬ (33 ≤ a ∧ a ≤ 41) → a ≠ 54 → a ≠ 55 → κ'.2.1 a = κ.2.1 a) ∧ ∀ a, a ≠ 42 → κ'.2.2 a = κ.2.2 a
theorem zPf_r (κ : zl_S) : zPf κ κ := ⟨fun _ _ => rfl, fun _ _ _ _ => rfl, fun _ _ => rfl⟩
theorem zPf_t {κ1 κ2 κ : zl_S} (h : zPf κ1 κ2) (g : zPf κ2 κ) : zPf κ1 κ := ⟨fun o ho => (h.1 o ho).trans (g.1 o ho), fun a h1 h2 h3 => (h.2.1 a h1 h2 h3).trans (g.2.1 a h1 h2 h3), fun a ha => (h.2.2 a ha).trans (g.2.2 a ha)⟩
theorem zPf_s {κ' κ : zl_S} (h : zSc κ' κ) : zPf κ' κ := ⟨fun o _ => by rw [h.1], fun a _ h1 h2 => h.2.1 a h1 h2, fun a _ => by rw [h.2.2]⟩
theorem zPf_a {κ' κ : zl_S} {a i : Nat} {v : Int32} (h : zPf κ' κ) (ha : 33 ≤ a ∧ a ≤ 41) : zPf (zl_sa κ' a i v) κ := ⟨h.1, fun c h1 h2 h3 => (zla_o _ (by omega) _ _).trans (h.2.1 c h1 h2 h3), h.2.2⟩
section ZK25
variable {l : Launch} {G : zq_G} {D n n' b : Nat} {κ κ' : zl_S} {σ τ : zm_S} {ρ ρ' : Nat → zq_E} {K K' : Nat → Int32} {m hn t z : Nat} {Ls : Nat → List zLC} {Λ Λ' : List Nat} {post : Option Value → Nat → (Nat → zq_E) → Prop}
theorem zQc_s2 (h : zQc κ ρ n 32 K m hn t Ls) (g : zSc κ' κ) : zQc κ' ρ n 32 K m hn t Ls := zQc_f h (by rw [g.1]) (fun c h1 h9 => g.2.1 _ (by omega) (by omega)) (by rw [g.2.2])
theorem zc_draw {s : Nat} {f : Nat → zq_E} (hs : s ≤ 1000002) (hp : post (some (.int (nI (zdrw s)))) n f) : zq_Runs l G D 0 0 yX11_draw [.int (nI s)] n f post := by
  refine zq_enter (cc := cX11_draw) (nL := 1) (ret := (some .int)) cw_X11_draw (by decide) rfl (Nat.le_of_ble_eq_true rfl) ?_
  refine at_iload_n dX11_draw_0 rfl ?_
  refine at_i2l dX11_draw_1 ?_
  refine at_ldc2 dX11_draw_2 kl_X11_399 ?_
  refine at_lmul dX11_draw_5 ?_
  refine at_ldc2 dX11_draw_6 kl_X11_401 ?_
  refine at_ladd dX11_draw_9 ?_
  refine at_ldc2 dX11_draw_10 kl_X11_403 ?_
  refine at_lrem dX11_draw_13 (by decide) ?_
  rw [show (nI s).toInt64 * 1103 = (1103 : Int64) * (nI s).toInt64 from Int64.mul_comm _ _]
  refine at_l2i dX11_draw_14 ?_
  rw [zdrw_l hs]
  refine at_iret dX11_draw_15 rfl (by omega) (by omega) ?_
  exact hp
theorem zc_drawnDeed {p wh y : Nat} (hD : 7 ≤ D) (hK : zKW K m hn t Ls) (hQ : zQc κ ρ n 32 K m hn t Ls) (hp : p < m) (hw : wh < 4) (y1 : 1 ≤ y) (y5 : y ≤ 5) (hk : ∀ κ', zPf κ' κ → zQc κ' ρ n 32 (zdayK (zLoK K Ls) m p wh y K) m hn t Ls → post none n (zl_h κ' (zm_h σ ρ))) : zq_Runs l G D 0 0 yX11_drawnDeed [.ref 8, .int (nI p), .int (nI wh), .int (nI y)] n (zl_h κ (zm_h σ ρ)) post := by
  have hm7 := hK.1.2.1
  have hN := zQc_N hQ hK
  have hT := zQc_T hQ hK
  have hV := zQc_V σ hQ hK
  have t6 := hK.2.2.2.2.2.2.2.2.2.1
  have vp := (hK.1.2.2.1 p hp).2
  have vp5 := vp.2.1
  have hl4 := zlen_le (zX1 K p)
  have hl1 : 0 < zlen (zX1 K p) := by omega
  have hx : κ.2.1 (32 + 1) p = nI (zX1 K p) := (hN.2.2.1 p hp).1
  have hdl := zdg4_lt (zX1 K p) 0
  have e4 : zix 4 (nI 0) = true := by rw [zix_n (by decide)]; rfl
  unfold zdayK at hk
  by_cases h2 : wh < 2
  · by_cases hp1 : p + 1 < m
    · rw [if_pos ⟨h2, hp1⟩] at hk
      have hp' := hk _ (by unfold zuX; exact zPf_a (zPf_a (zPf_a (zPf_a (zPf_r κ) (by omega)) (by omega)) (by omega)) (by omega)) (zQc_swp hQ hK.1 hK.2.2.1 hp1)
      refine zq_enter (cc := cX11_drawnDeed) (nL := 4) (ret := none) cw_X11_drawnDeed (by decide) rfl (Nat.le_of_ble_eq_true rfl) ?_
      refine at_iload_n dX11_drawnDeed_0 rfl ?_
      refine at_iconst dX11_drawnDeed_1 (v := nI 1) (by decide) ?_
      refine at_gtN (tgt := 27) dX11_drawnDeed_2 (by decide) (by omega) (by omega) (fun c2 => ?_) (fun c2 => ?_)
      · omega
      · refine at_aload_n dX11_drawnDeed_5 rfl ?_
        refine at_get dX11_drawnDeed_6 fl_X11_23 (zl_o rfl) rfl ?_
        refine at_iload_n dX11_drawnDeed_9 rfl ?_
        refine at_iconst dX11_drawnDeed_10 (v := nI 1) (by decide) ?_
        refine at_iaddN dX11_drawnDeed_11 ?_
        refine at_callV1 (d := D - 1) dX11_drawnDeed_12 mv_X11_120 (zl_q zQ32) (Nat.le_of_ble_eq_true rfl) (zq_r0 (by omega) (by omega) (by omega)) ?_
        refine zc_has zQ32 hQ.1.1 hm7 ?_
        rw [zix_n (by omega), decide_eq_true hp1]
        refine at_if_eqB (tgt := 26) dX11_drawnDeed_15 (by decide) (fun c15 => ?_) (fun c15 => ?_)
        · cases c15
        · refine at_aload_n dX11_drawnDeed_18 rfl ?_
          refine at_get dX11_drawnDeed_19 fl_X11_23 (zl_o rfl) rfl ?_
          refine at_iload_n dX11_drawnDeed_22 rfl ?_
          refine at_callV1 (d := D - 1) dX11_drawnDeed_23 mv_X11_257 (zl_q zQ32) (Nat.le_of_ble_eq_true rfl) (zq_r0 (by omega) (by omega) (by omega)) ?_
          refine zc_exchange (by omega) zQ32 hN hp1 ?_
          refine at_vret dX11_drawnDeed_26 rfl (by omega) (by omega) ?_
          exact hp'
    · rw [if_neg (fun g => hp1 g.2), if_neg (fun g => by omega)] at hk
      have hp' := hk κ (zPf_r κ) hQ
      refine zq_enter (cc := cX11_drawnDeed) (nL := 4) (ret := none) cw_X11_drawnDeed (by decide) rfl (Nat.le_of_ble_eq_true rfl) ?_
      refine at_iload_n dX11_drawnDeed_0 rfl ?_
      refine at_iconst dX11_drawnDeed_1 (v := nI 1) (by decide) ?_
      refine at_gtN (tgt := 27) dX11_drawnDeed_2 (by decide) (by omega) (by omega) (fun c2 => ?_) (fun c2 => ?_)
      · omega
      · refine at_aload_n dX11_drawnDeed_5 rfl ?_
        refine at_get dX11_drawnDeed_6 fl_X11_23 (zl_o rfl) rfl ?_
        refine at_iload_n dX11_drawnDeed_9 rfl ?_
        refine at_iconst dX11_drawnDeed_10 (v := nI 1) (by decide) ?_
        refine at_iaddN dX11_drawnDeed_11 ?_
        refine at_callV1 (d := D - 1) dX11_drawnDeed_12 mv_X11_120 (zl_q zQ32) (Nat.le_of_ble_eq_true rfl) (zq_r0 (by omega) (by omega) (by omega)) ?_
        refine zc_has zQ32 hQ.1.1 hm7 ?_
        rw [zix_n (by omega), decide_eq_false hp1]
        refine at_if_eqB (tgt := 26) dX11_drawnDeed_15 (by decide) (fun c15 => ?_) (fun c15 => ?_)
        · refine at_vret dX11_drawnDeed_26 rfl (by omega) (by omega) ?_
          exact hp'
        · cases c15
  · rw [if_neg (fun g => h2 g.1)] at hk
    by_cases h3 : wh = 2
    · by_cases hy : zlt (zX1 K p) 0 = y
      · rw [if_neg (fun g => g.2.1 hy)] at hk
        have hp' := hk κ (zPf_r κ) hQ
        refine zq_enter (cc := cX11_drawnDeed) (nL := 4) (ret := none) cw_X11_drawnDeed (by decide) rfl (Nat.le_of_ble_eq_true rfl) ?_
        refine at_iload_n dX11_drawnDeed_0 rfl ?_
        refine at_iconst dX11_drawnDeed_1 (v := nI 1) (by decide) ?_
        refine at_gtN (tgt := 27) dX11_drawnDeed_2 (by decide) (by omega) (by omega) (fun c2 => ?_) (fun c2 => ?_)
        · refine at_iload_n dX11_drawnDeed_27 rfl ?_
          refine at_iconst dX11_drawnDeed_28 (v := nI 2) (by decide) ?_
          refine at_neN (tgt := 60) dX11_drawnDeed_29 (by decide) (by omega) (by omega) (fun c29 => ?_) (fun c29 => ?_)
          · omega
          · refine at_aload_n dX11_drawnDeed_32 rfl ?_
            refine at_get dX11_drawnDeed_33 fl_X11_23 (zl_o rfl) rfl ?_
            refine at_iload_n dX11_drawnDeed_36 rfl ?_
            refine at_callV1 (d := D - 1) dX11_drawnDeed_37 mv_X11_120 (zl_q zQ32) (Nat.le_of_ble_eq_true rfl) (zq_r0 (by omega) (by omega) (by omega)) ?_
            refine zc_has zQ32 hQ.1.1 hm7 ?_
            rw [zix_n (by omega), decide_eq_true hp]
            refine at_if_eqB (tgt := 60) dX11_drawnDeed_40 (by decide) (fun c40 => ?_) (fun c40 => ?_)
            · cases c40
            · refine at_aload_n dX11_drawnDeed_43 rfl ?_
              refine at_get dX11_drawnDeed_44 fl_X11_23 (zl_o rfl) rfl ?_
              refine at_get dX11_drawnDeed_47 fl_X11_123 (zl_q zQ32) rfl ?_
              refine at_iload_n dX11_drawnDeed_50 rfl ?_
              refine at_uld (b := 32) (c := 1) dX11_drawnDeed_51 zQ32 (by decide) (by decide) rfl (by show _ < 7; omega) ?_
              rw [hx]
              refine at_iconst dX11_drawnDeed_52 (v := nI 0) (by decide) ?_
              refine at_callS2 (d := D - 1) dX11_drawnDeed_53 ms_X11_150 (Nat.le_of_ble_eq_true rfl) (zq_r0 (by omega) (by omega) (by omega)) ?_
              refine zc_letterOf (by omega) vp.1 (by omega) ?_
              rw [e4, if_pos rfl, nI_clamp (by decide)]
              refine at_iload_n dX11_drawnDeed_56 rfl ?_
              refine at_neN (tgt := 61) dX11_drawnDeed_57 (by decide) (by omega) (by omega) (fun c57 => ?_) (fun c57 => ?_)
              · exact absurd (by rw [zdg4_in hl1]; exact hy) c57
              · refine at_vret dX11_drawnDeed_60 rfl (by omega) (by omega) ?_
                exact hp'
        · omega
      · have hbr : ∀ κ1, zSc κ1 κ → zbar K m p (zX1 K p) (zLoK K Ls) = true → post none n (zl_h κ1 (zm_h σ ρ)) := fun κ1 s1 hb => by
          rw [if_neg (fun g => by rw [hb] at g; cases g.2.2)] at hk
          exact hk κ1 (zPf_s s1) (zQc_s2 hQ s1)
        have hgo : ∀ κ1, zSc κ1 κ → zbar K m p (zX1 K p) (zLoK K Ls) = false → post none n (zl_h (zl_sa κ1 (32 + 1) p (nI (zwl (zX1 K p) 0 y))) (zm_h σ ρ)) := fun κ1 s1 hb => by
          rw [if_pos ⟨h3, hy, hb⟩] at hk
          exact hk _ (zPf_a (zPf_s s1) (by omega)) (zQc_name (zQc_s2 hQ s1) hm7 hp)
        refine zq_enter (cc := cX11_drawnDeed) (nL := 4) (ret := none) cw_X11_drawnDeed (by decide) rfl (Nat.le_of_ble_eq_true rfl) ?_
        refine at_iload_n dX11_drawnDeed_0 rfl ?_
        refine at_iconst dX11_drawnDeed_1 (v := nI 1) (by decide) ?_
        refine at_gtN (tgt := 27) dX11_drawnDeed_2 (by decide) (by omega) (by omega) (fun c2 => ?_) (fun c2 => ?_)
        · refine at_iload_n dX11_drawnDeed_27 rfl ?_
          refine at_iconst dX11_drawnDeed_28 (v := nI 2) (by decide) ?_
          refine at_neN (tgt := 60) dX11_drawnDeed_29 (by decide) (by omega) (by omega) (fun c29 => ?_) (fun c29 => ?_)
          · omega
          · refine at_aload_n dX11_drawnDeed_32 rfl ?_
            refine at_get dX11_drawnDeed_33 fl_X11_23 (zl_o rfl) rfl ?_
            refine at_iload_n dX11_drawnDeed_36 rfl ?_
            refine at_callV1 (d := D - 1) dX11_drawnDeed_37 mv_X11_120 (zl_q zQ32) (Nat.le_of_ble_eq_true rfl) (zq_r0 (by omega) (by omega) (by omega)) ?_
            refine zc_has zQ32 hQ.1.1 hm7 ?_
            rw [zix_n (by omega), decide_eq_true hp]
            refine at_if_eqB (tgt := 60) dX11_drawnDeed_40 (by decide) (fun c40 => ?_) (fun c40 => ?_)
            · cases c40
            · refine at_aload_n dX11_drawnDeed_43 rfl ?_
              refine at_get dX11_drawnDeed_44 fl_X11_23 (zl_o rfl) rfl ?_
              refine at_get dX11_drawnDeed_47 fl_X11_123 (zl_q zQ32) rfl ?_
              refine at_iload_n dX11_drawnDeed_50 rfl ?_
              refine at_uld (b := 32) (c := 1) dX11_drawnDeed_51 zQ32 (by decide) (by decide) rfl (by show _ < 7; omega) ?_
              rw [hx]
              refine at_iconst dX11_drawnDeed_52 (v := nI 0) (by decide) ?_
              refine at_callS2 (d := D - 1) dX11_drawnDeed_53 ms_X11_150 (Nat.le_of_ble_eq_true rfl) (zq_r0 (by omega) (by omega) (by omega)) ?_
              refine zc_letterOf (by omega) vp.1 (by omega) ?_
              rw [e4, if_pos rfl, nI_clamp (by decide)]
              refine at_iload_n dX11_drawnDeed_56 rfl ?_
              refine at_neN (tgt := 61) dX11_drawnDeed_57 (by decide) (by omega) (by omega) (fun c57 => ?_) (fun c57 => ?_)
              · refine at_aload_n dX11_drawnDeed_61 rfl ?_
                refine at_get dX11_drawnDeed_62 fl_X11_54 (zl_o rfl) rfl ?_
                refine at_aload_n dX11_drawnDeed_65 rfl ?_
                refine at_get dX11_drawnDeed_66 fl_X11_23 (zl_o rfl) rfl ?_
                refine at_aload_n dX11_drawnDeed_69 rfl ?_
                refine at_get dX11_drawnDeed_70 fl_X11_23 (zl_o rfl) rfl ?_
                refine at_callV0 (d := D - 1) dX11_drawnDeed_73 mv_X11_129 (zl_q zQ32) (Nat.le_of_ble_eq_true rfl) (zq_r0 (by omega) (by omega) (by omega)) ?_
                refine zc_inForce (by omega) zQ32 hQ.1.2.2.1 t6 ?_
                refine at_iload_n dX11_drawnDeed_76 rfl ?_
                refine at_callV3 (d := D - 1) dX11_drawnDeed_77 mv_X11_137 (zl_o rfl) (Nat.le_of_ble_eq_true rfl) (zq_r0 (by omega) (by omega) (by omega)) ?_
                refine zc_isBarred (by omega) zQ32 hN hT hp hV (fun a1 g1 => ?_)
                generalize hk1 : zl_sA (zl_sA κ 55 g1) 54 a1 = κ1
                have s1 : zSc κ1 κ := by rw [← hk1]; exact zSc_54 (zSc_r κ) a1 g1
                refine at_if_neB (tgt := 93) dX11_drawnDeed_80 (by decide) (fun c80 => ?_) (fun c80 => ?_)
                · have hp' := hbr κ1 s1 c80
                  refine at_vret dX11_drawnDeed_93 rfl (by omega) (by omega) ?_
                  exact hp'
                · have hp' := hgo κ1 s1 c80
                  refine at_aload_n dX11_drawnDeed_83 rfl ?_
                  refine at_get dX11_drawnDeed_84 fl_X11_23 (zl_o rfl) rfl ?_
                  refine at_iload_n dX11_drawnDeed_87 rfl ?_
                  refine at_iconst dX11_drawnDeed_88 (v := nI 0) (by decide) ?_
                  refine at_iload_n dX11_drawnDeed_89 rfl ?_
                  refine at_callV3 (d := D - 1) dX11_drawnDeed_90 mv_X11_254 (zl_q zQ32) (Nat.le_of_ble_eq_true rfl) (zq_r0 (by omega) (by omega) (by omega)) ?_
                  refine zc_write (by omega) zQ32 (zQc_N (zQc_s2 hQ s1) hK) hp hl1 ?_
                  refine at_vret dX11_drawnDeed_93 rfl (by omega) (by omega) ?_
                  exact hp'
              · exact absurd (by rw [zdg4_in hl1] at c57; exact c57) hy
        · omega
    · rw [if_neg (fun g => h3 g.1)] at hk
      have hp' := hk κ (zPf_r κ) hQ
      refine zq_enter (cc := cX11_drawnDeed) (nL := 4) (ret := none) cw_X11_drawnDeed (by decide) rfl (Nat.le_of_ble_eq_true rfl) ?_
      refine at_iload_n dX11_drawnDeed_0 rfl ?_
      refine at_iconst dX11_drawnDeed_1 (v := nI 1) (by decide) ?_
      refine at_gtN (tgt := 27) dX11_drawnDeed_2 (by decide) (by omega) (by omega) (fun c2 => ?_) (fun c2 => ?_)
      · refine at_iload_n dX11_drawnDeed_27 rfl ?_
        refine at_iconst dX11_drawnDeed_28 (v := nI 2) (by decide) ?_
        refine at_neN (tgt := 60) dX11_drawnDeed_29 (by decide) (by omega) (by omega) (fun c29 => ?_) (fun c29 => ?_)
        · refine at_vret dX11_drawnDeed_60 rfl (by omega) (by omega) ?_
          exact hp'
        · omega
      · omega
theorem zKW_day {p wh y : Nat} (g : zKW K m hn t Ls) (hp : p < m) (y1 : 1 ≤ y) (y5 : y ≤ 5) : zKW (zdayK (zLoK K Ls) m p wh y K) m hn t Ls := by
  have hm7 := g.1.2.1
  have ho : ∀ j, 14 ≤ j → zdayK (zLoK K Ls) m p wh y K j = K j := fun j hj => zdayK_o hm7 hp hj
  refine zKW_20 g ⟨zdayK_C g.1 hp y1 y5, (zAl_c g.2.1 (fun k hk => ho _ (by omega))).1, ?_, by rw [ho 19 (by decide)]; exact g.2.2.2.1, by rw [ho 72 (by decide)]; exact g.2.2.2.2.2.1, zForce_c (zKW_F g) (fun j hj => ho j (by omega))⟩ (fun j hj => ho j (by omega))
  unfold zdayK
  split
  · next e => exact zInj_swp g.2.2.1 e.2
  · split
    · exact zInj_c g.2.2.1 (fun k hk => upd_o _ (by omega) _)
    · exact g.2.2.1
theorem zKW_19 {d : Nat} (g : zKW K m hn t Ls) (hd : d ≤ 999) : zKW (upd K 19 (nI d)) m hn t Ls := by
  have ko : ∀ j, j ≠ 19 → upd K 19 (nI d) j = K j := fun j hj => upd_o _ hj _
  refine zKW_g g (fun j hj => ko j (by omega)) (ko 73 (by decide)) ⟨d, hd, upd_s _ _ _⟩ ?_ ?_ (zKW_sd g (fun j j1 j2 => ko j (by omega))) (zKW_hh g (fun j j1 j2 => ko j (by omega)) (ko 74 (by decide))) (zKW_ll g (fun j hj => ko j (by omega)))
  · rw [ko 71 (by decide)]; exact g.2.2.2.2.1
  · rw [ko 72 (by decide)]; exact g.2.2.2.2.2.1
theorem zc_weeks_loop {rk : Nat → Nat} {Lo : Option (List zLC)} {bb : Nat} (hD : 9 ≤ D) (h0 : 0 < m) (hb : bb ≤ 60) (h90 : κ.1 9 0 = nI m) (Q : (Nat → Int32) × Nat)
    (hk : ∀ κ', zPf κ' κ → zKW Q.1 m hn t Ls → zQc κ' ρ n 32 Q.1 m hn t Ls → Q.2 ≤ 60 → zq_At l G (zq_rm D 0 0) mX11_weeks (zq_QF G post 0 0) 160 [(0, .ref 8), (4, .int (nI Q.2))] [] n (zl_h κ' (zm_h σ ρ)) 0 0) :
    ∀ f i K' s c κ', i + f = bb → c ≤ i → s ≤ 1000002 → zPf κ' κ → zKW K' m hn t Ls → zrkK K' = rk → zLoK K' Ls = Lo → zQc κ' ρ n 32 K' m hn t Ls → zwk Lo rk m f K' s c = Q → zq_At l G (zq_rm D 0 0) mX11_weeks (zq_QF G post 0 0) 64 [(0, .ref 8), (2, .int (nI bb)), (3, .int (nI s)), (4, .int (nI c)), (5, .int (nI i))] [] n (zl_h κ' (zm_h σ ρ)) 0 0 := by
  intro f
  induction f with
  | zero =>
    intro i K' s c κ' hi hc hs hf hK hr hL hQ hQ2
    have hQ2 : (K', c) = Q := hQ2
    have he := hk κ' hf (by rw [← hQ2]; exact hK) (by rw [← hQ2]; exact hQ) (by rw [← hQ2]; show c ≤ 60; omega)
    rw [← hQ2] at he
    refine at_iload dX11_weeks_64 rfl ?_
    refine at_iload_n dX11_weeks_66 rfl ?_
    refine at_geN (tgt := 160) dX11_weeks_67 (by decide) (by omega) (by omega) (fun c67 => ?_) (fun c67 => ?_)
    · exact at_lv [0, 4] he
    · omega
  | succ f ih =>
    intro i K' s c κ' hi hc hs hf hK hr hL hQ hQ2
    have hm7 := hK.1.2.1
    obtain ⟨d, d9, ed⟩ := hK.2.2.2.1
    have e0 : κ'.2.1 (32 + 7) 0 = nI d := hQ.2.2.2.2.2.2.2.1.1.trans ed
    unfold zwk at hQ2
    rw [ed, nI_clamp (by omega)] at hQ2
    by_cases h9 : 999 ≤ d
    · rw [if_pos h9] at hQ2
      have he := hk κ' hf (by rw [← hQ2]; exact hK) (by rw [← hQ2]; exact hQ) (by rw [← hQ2]; show c ≤ 60; omega)
      rw [← hQ2] at he
      refine at_iload dX11_weeks_64 rfl ?_
      refine at_iload_n dX11_weeks_66 rfl ?_
      refine at_geN (tgt := 160) dX11_weeks_67 (by decide) (by omega) (by omega) (fun c67 => ?_) (fun c67 => ?_)
      · omega
      · refine at_aload_n dX11_weeks_70 rfl ?_
        refine at_get dX11_weeks_71 fl_X11_23 (zl_o rfl) rfl ?_
        refine at_get dX11_weeks_74 fl_X11_172 (zl_q zQ32) rfl ?_
        refine at_iconst dX11_weeks_77 (v := nI 0) (by decide) ?_
        refine at_uld (b := 32) (c := 7) dX11_weeks_78 zQ32 (by decide) (by decide) rfl (by show _ < 3; omega) ?_
        rw [e0]
        refine at_sipush dX11_weeks_79 (v := nI 999) (by decide) ?_
        refine at_geN (tgt := 160) dX11_weeks_82 (by decide) (by omega) (by omega) (fun c82 => ?_) (fun c82 => ?_)
        · exact at_lv [0, 4] he
        · omega
    · rw [if_neg h9] at hQ2
      have l1 := zdrw_lt s
      have l2 := zdrw_lt (zdrw s)
      have l3 := zdrw_lt (zdrw (zdrw s))
      have hpm : zdrw s % m < m := Nat.mod_lt _ h0
      have hKd := zKW_day (wh := zdrw (zdrw s) % 4) hK hpm (show 1 ≤ zdrw (zdrw (zdrw s)) % 5 + 1 by omega) (show zdrw (zdrw (zdrw s)) % 5 + 1 ≤ 5 by omega)
      rw [hL] at hKd
      have eday : zdayS Lo m s K' = upd (zdayK Lo m (zdrw s % m) (zdrw (zdrw s) % 4) (zdrw (zdrw (zdrw s)) % 5 + 1) K') 19 (nI (d + 1)) := by
        unfold zdayS
        rw [ed, nI_clamp (by omega)]
      have hKS : zKW (zdayS Lo m s K') m hn t Ls := by rw [eday]; exact zKW_19 hKd (by omega)
      have ed2 : zdayK Lo m (zdrw s % m) (zdrw (zdrw s) % 4) (zdrw (zdrw (zdrw s)) % 5 + 1) K' 19 = nI d := by rw [zdayK_o hm7 hpm (by decide)]; exact ed
      have hrS : zrkK (zdayS Lo m s K') = rk := by rw [zrkK_c (fun k hk => zdayS_o hm7 h0 (by omega) (by omega))]; exact hr
      have hLS : zLoK (zdayS Lo m s K') Ls = Lo := by rw [zLoK_20 (zdayS_o hm7 h0 (by omega) (by omega))]; exact hL
      obtain ⟨dd, dd7, ed3, ed4⟩ := zrt_cnt rk (zX1 (zdayS Lo m s K')) (zW1 (zdayS Lo m s K')) hm7
      refine at_iload dX11_weeks_64 rfl ?_
      refine at_iload_n dX11_weeks_66 rfl ?_
      refine at_geN (tgt := 160) dX11_weeks_67 (by decide) (by omega) (by omega) (fun c67 => ?_) (fun c67 => ?_)
      · omega
      · refine at_aload_n dX11_weeks_70 rfl ?_
        refine at_get dX11_weeks_71 fl_X11_23 (zl_o rfl) rfl ?_
        refine at_get dX11_weeks_74 fl_X11_172 (zl_q zQ32) rfl ?_
        refine at_iconst dX11_weeks_77 (v := nI 0) (by decide) ?_
        refine at_uld (b := 32) (c := 7) dX11_weeks_78 zQ32 (by decide) (by decide) rfl (by show _ < 3; omega) ?_
        rw [e0]
        refine at_sipush dX11_weeks_79 (v := nI 999) (by decide) ?_
        refine at_geN (tgt := 160) dX11_weeks_82 (by decide) (by omega) (by omega) (fun c82 => ?_) (fun c82 => ?_)
        · omega
        · refine at_iload_n dX11_weeks_85 rfl ?_
          refine at_callS1 (d := D - 1) dX11_weeks_86 ms_X11_343 (Nat.le_of_ble_eq_true rfl) (zq_r0 (by omega) (by omega) (by omega)) ?_
          refine zc_draw hs ?_
          refine at_istore dX11_weeks_89 (by decide) ?_
          refine at_iload dX11_weeks_91 rfl ?_
          refine at_callS1 (d := D - 1) dX11_weeks_93 ms_X11_343 (Nat.le_of_ble_eq_true rfl) (zq_r0 (by omega) (by omega) (by omega)) ?_
          refine zc_draw (by omega) ?_
          refine at_istore dX11_weeks_96 (by decide) ?_
          refine at_iload dX11_weeks_98 rfl ?_
          refine at_callS1 (d := D - 1) dX11_weeks_100 ms_X11_343 (Nat.le_of_ble_eq_true rfl) (zq_r0 (by omega) (by omega) (by omega)) ?_
          refine zc_draw (by omega) ?_
          refine at_istore_n dX11_weeks_103 rfl (by decide) ?_
          refine at_aload_n dX11_weeks_104 rfl ?_
          refine at_iload dX11_weeks_105 rfl ?_
          refine at_aload_n dX11_weeks_107 rfl ?_
          refine at_get dX11_weeks_108 fl_X11_12 (zl_o rfl) rfl ?_
          refine at_get dX11_weeks_111 fl_X11_288 (zl_q zQ9) rfl ?_
          rw [hf.1 9 (by decide), h90]
          refine at_iremN dX11_weeks_114 (by omega) (by omega) (by omega) ?_
          refine at_iload dX11_weeks_115 rfl ?_
          refine at_iconst dX11_weeks_117 (v := nI 4) (by decide) ?_
          refine at_iremN dX11_weeks_118 (by omega) (by omega) (by omega) ?_
          refine at_iload_n dX11_weeks_119 rfl ?_
          refine at_iconst dX11_weeks_120 (v := nI 5) (by decide) ?_
          refine at_iremN dX11_weeks_121 (by omega) (by omega) (by omega) ?_
          refine at_iconst dX11_weeks_122 (v := nI 1) (by decide) ?_
          refine at_iaddN dX11_weeks_123 ?_
          refine at_callV3 (d := D - 1) dX11_weeks_124 mv_X11_346 (zl_o rfl) (Nat.le_of_ble_eq_true rfl) (zq_r0 (by omega) (by omega) (by omega)) ?_
          refine zc_drawnDeed (by omega) hK hQ hpm (by omega) (by omega) (by omega) (fun κ2 hf2 hQ2' => ?_)
          rw [hL] at hQ2'
          have e2 : κ2.2.1 (32 + 7) 0 = nI d := hQ2'.2.2.2.2.2.2.2.1.1.trans ed2
          have hQ3 : zQc (zl_sa κ2 (32 + 7) 0 (nI (d + 1))) ρ n 32 (zdayS Lo m s K') m hn t Ls := by
            rw [eday]
            exact zQc_term (j := 0) (v := nI (d + 1)) hQ2' hm7 hKd.2.2.2.2.2.2.2.1.2.1 (by decide)
          refine at_aload_n dX11_weeks_127 rfl ?_
          refine at_get dX11_weeks_128 fl_X11_23 (zl_o rfl) rfl ?_
          refine at_get dX11_weeks_131 fl_X11_172 (zl_q zQ32) rfl ?_
          refine at_iconst dX11_weeks_134 (v := nI 0) (by decide) ?_
          refine at_dup2 dX11_weeks_135 rfl rfl ?_
          refine at_uld (b := 32) (c := 7) dX11_weeks_136 zQ32 (by decide) (by decide) rfl (by show _ < 3; omega) ?_
          rw [e2]
          refine at_iconst dX11_weeks_137 (v := nI 1) (by decide) ?_
          refine at_iaddN dX11_weeks_138 ?_
          refine at_ust (b := 32) (c := 7) dX11_weeks_139 zQ32 (by decide) (by decide) rfl (by show _ < 3; omega) ?_
          refine at_aload_n dX11_weeks_140 rfl ?_
          refine at_get dX11_weeks_141 fl_X11_23 (zl_o rfl) rfl ?_
          refine at_iconst dX11_weeks_144 (v := -1) rfl ?_
          refine at_callV1 (d := D - 1) dX11_weeks_145 mv_X11_273 (zl_q zQ32) (Nat.le_of_ble_eq_true rfl) (zq_r0 (by omega) (by omega) (by omega)) ?_
          refine zc_breakAt (by omega) zQ32 (zQc_N hQ3 hKS) (zQc_O hQ3 hKS) ?_
          rw [hrS, ed3]
          refine at_if_neN (tgt := 154) dX11_weeks_148 (by decide) (by omega) (fun c148 => ?_) (fun c148 => ?_)
          · rw [if_neg (by rw [← ed4, decide_eq_false c148]; decide), Nat.add_zero] at hQ2
            have hn := ih (i + 1) _ _ c _ (by omega) (by omega) (by omega) (zPf_a (zPf_t hf2 hf) (by omega)) hKS hrS hLS hQ3 hQ2
            refine at_iincN dX11_weeks_154 rfl (by decide) ?_
            refine at_goto (tgt := 64) dX11_weeks_157 (by decide) ?_
            exact at_lv [0, 2, 3, 4, 5] hn
          · rw [if_pos (by rw [← ed4, decide_eq_true c148])] at hQ2
            have hn := ih (i + 1) _ _ (c + 1) _ (by omega) (by omega) (by omega) (zPf_a (zPf_t hf2 hf) (by omega)) hKS hrS hLS hQ3 hQ2
            refine at_iincN dX11_weeks_151 rfl (by decide) ?_
            refine at_iincN dX11_weeks_154 rfl (by decide) ?_
            refine at_goto (tgt := 64) dX11_weeks_157 (by decide) ?_
            exact at_lv [0, 2, 3, 4, 5] hn
end ZK25

