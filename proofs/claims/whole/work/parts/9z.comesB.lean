/-! ===== calls on both sides: chances ===== -/
theorem dX11_comes_0 : decode cX11_comes 0 = .ok (.iload_n 1, 1) := by decide +kernel
theorem dX11_comes_1 : decode cX11_comes 1 = .ok (.iconst 1, 1) := by decide +kernel
theorem dX11_comes_2 : decode cX11_comes 2 = .ok (.if_icmp .lt 19, 3) := by decide +kernel
theorem dX11_comes_5 : decode cX11_comes 5 = .ok (.iload_n 1, 1) := by decide +kernel
theorem dX11_comes_6 : decode cX11_comes 6 = .ok (.bipush 20, 2) := by decide +kernel
theorem dX11_comes_8 : decode cX11_comes 8 = .ok (.if_icmp .gt 13, 3) := by decide +kernel
theorem dX11_comes_11 : decode cX11_comes 11 = .ok (.iload_n 2, 1) := by decide +kernel
theorem dX11_comes_12 : decode cX11_comes 12 = .ok (.ifCond .lt 9, 3) := by decide +kernel
theorem dX11_comes_15 : decode cX11_comes 15 = .ok (.iload_n 2, 1) := by decide +kernel
theorem dX11_comes_16 : decode cX11_comes 16 = .ok (.bipush 99, 2) := by decide +kernel
theorem dX11_comes_18 : decode cX11_comes 18 = .ok (.if_icmp .le 7, 3) := by decide +kernel
theorem dX11_comes_21 : decode cX11_comes 21 = .ok (.ldc2_w 336, 3) := by decide +kernel
theorem dX11_comes_24 : decode cX11_comes 24 = .ok (.lreturn, 1) := by decide +kernel
theorem dX11_comes_25 : decode cX11_comes 25 = .ok (.aload_n 0, 1) := by decide +kernel
theorem dX11_comes_26 : decode cX11_comes 26 = .ok (.getfield 12, 3) := by decide +kernel
theorem dX11_comes_29 : decode cX11_comes 29 = .ok (.getfield 172, 3) := by decide +kernel
theorem dX11_comes_32 : decode cX11_comes 32 = .ok (.iconst 1, 1) := by decide +kernel
theorem dX11_comes_33 : decode cX11_comes 33 = .ok (.iaload, 1) := by decide +kernel
theorem dX11_comes_34 : decode cX11_comes 34 = .ok (.istore_n 3, 1) := by decide +kernel
theorem dX11_comes_35 : decode cX11_comes 35 = .ok (.iload_n 1, 1) := by decide +kernel
theorem dX11_comes_36 : decode cX11_comes 36 = .ok (.newarray .long, 2) := by decide +kernel
theorem dX11_comes_38 : decode cX11_comes 38 = .ok (.astore 4, 2) := by decide +kernel
theorem dX11_comes_40 : decode cX11_comes 40 = .ok (.aload 4, 2) := by decide +kernel
theorem dX11_comes_42 : decode cX11_comes 42 = .ok (.iconst 0, 1) := by decide +kernel
theorem dX11_comes_43 : decode cX11_comes 43 = .ok (.ldc2_w 338, 3) := by decide +kernel
theorem dX11_comes_46 : decode cX11_comes 46 = .ok (.lastore, 1) := by decide +kernel
theorem dX11_comes_47 : decode cX11_comes 47 = .ok (.iconst 0, 1) := by decide +kernel
theorem dX11_comes_48 : decode cX11_comes 48 = .ok (.istore 5, 2) := by decide +kernel
theorem dX11_comes_50 : decode cX11_comes 50 = .ok (.iload 5, 2) := by decide +kernel
theorem dX11_comes_52 : decode cX11_comes 52 = .ok (.iload_n 2, 1) := by decide +kernel
theorem dX11_comes_53 : decode cX11_comes 53 = .ok (.if_icmp .ge 78, 3) := by decide +kernel
theorem dX11_comes_56 : decode cX11_comes 56 = .ok (.iload_n 1, 1) := by decide +kernel
theorem dX11_comes_57 : decode cX11_comes 57 = .ok (.iconst 1, 1) := by decide +kernel
theorem dX11_comes_58 : decode cX11_comes 58 = .ok (.isub, 1) := by decide +kernel
theorem dX11_comes_59 : decode cX11_comes 59 = .ok (.istore 6, 2) := by decide +kernel
theorem dX11_comes_61 : decode cX11_comes 61 = .ok (.iload 6, 2) := by decide +kernel
theorem dX11_comes_63 : decode cX11_comes 63 = .ok (.ifCond .le 44, 3) := by decide +kernel
theorem dX11_comes_66 : decode cX11_comes 66 = .ok (.aload 4, 2) := by decide +kernel
theorem dX11_comes_68 : decode cX11_comes 68 = .ok (.iload 6, 2) := by decide +kernel
theorem dX11_comes_70 : decode cX11_comes 70 = .ok (.aload 4, 2) := by decide +kernel
theorem dX11_comes_72 : decode cX11_comes 72 = .ok (.iload 6, 2) := by decide +kernel
theorem dX11_comes_74 : decode cX11_comes 74 = .ok (.laload, 1) := by decide +kernel
theorem dX11_comes_75 : decode cX11_comes 75 = .ok (.bipush 10, 2) := by decide +kernel
theorem dX11_comes_77 : decode cX11_comes 77 = .ok (.iload_n 3, 1) := by decide +kernel
theorem dX11_comes_78 : decode cX11_comes 78 = .ok (.isub, 1) := by decide +kernel
theorem dX11_comes_79 : decode cX11_comes 79 = .ok (.i2l, 1) := by decide +kernel
theorem dX11_comes_80 : decode cX11_comes 80 = .ok (.lmul, 1) := by decide +kernel
theorem dX11_comes_81 : decode cX11_comes 81 = .ok (.ldc2_w 340, 3) := by decide +kernel
theorem dX11_comes_84 : decode cX11_comes 84 = .ok (.ldiv, 1) := by decide +kernel
theorem dX11_comes_85 : decode cX11_comes 85 = .ok (.aload 4, 2) := by decide +kernel
theorem dX11_comes_87 : decode cX11_comes 87 = .ok (.iload 6, 2) := by decide +kernel
theorem dX11_comes_89 : decode cX11_comes 89 = .ok (.iconst 1, 1) := by decide +kernel
theorem dX11_comes_90 : decode cX11_comes 90 = .ok (.isub, 1) := by decide +kernel
theorem dX11_comes_91 : decode cX11_comes 91 = .ok (.laload, 1) := by decide +kernel
theorem dX11_comes_92 : decode cX11_comes 92 = .ok (.iload_n 3, 1) := by decide +kernel
theorem dX11_comes_93 : decode cX11_comes 93 = .ok (.i2l, 1) := by decide +kernel
theorem dX11_comes_94 : decode cX11_comes 94 = .ok (.lmul, 1) := by decide +kernel
theorem dX11_comes_95 : decode cX11_comes 95 = .ok (.ldc2_w 340, 3) := by decide +kernel
theorem dX11_comes_98 : decode cX11_comes 98 = .ok (.ldiv, 1) := by decide +kernel
theorem dX11_comes_99 : decode cX11_comes 99 = .ok (.ladd, 1) := by decide +kernel
theorem dX11_comes_100 : decode cX11_comes 100 = .ok (.lastore, 1) := by decide +kernel
theorem dX11_comes_101 : decode cX11_comes 101 = .ok (.iinc 6 (-1), 3) := by decide +kernel
theorem dX11_comes_104 : decode cX11_comes 104 = .ok (.goto (-43), 3) := by decide +kernel
theorem dX11_comes_107 : decode cX11_comes 107 = .ok (.aload 4, 2) := by decide +kernel
theorem dX11_comes_109 : decode cX11_comes 109 = .ok (.iconst 0, 1) := by decide +kernel
theorem dX11_comes_110 : decode cX11_comes 110 = .ok (.aload 4, 2) := by decide +kernel
theorem dX11_comes_112 : decode cX11_comes 112 = .ok (.iconst 0, 1) := by decide +kernel
theorem dX11_comes_113 : decode cX11_comes 113 = .ok (.laload, 1) := by decide +kernel
theorem dX11_comes_114 : decode cX11_comes 114 = .ok (.bipush 10, 2) := by decide +kernel
theorem dX11_comes_116 : decode cX11_comes 116 = .ok (.iload_n 3, 1) := by decide +kernel
theorem dX11_comes_117 : decode cX11_comes 117 = .ok (.isub, 1) := by decide +kernel
theorem dX11_comes_118 : decode cX11_comes 118 = .ok (.i2l, 1) := by decide +kernel
theorem dX11_comes_119 : decode cX11_comes 119 = .ok (.lmul, 1) := by decide +kernel
theorem dX11_comes_120 : decode cX11_comes 120 = .ok (.ldc2_w 340, 3) := by decide +kernel
theorem dX11_comes_123 : decode cX11_comes 123 = .ok (.ldiv, 1) := by decide +kernel
theorem dX11_comes_124 : decode cX11_comes 124 = .ok (.lastore, 1) := by decide +kernel
theorem dX11_comes_125 : decode cX11_comes 125 = .ok (.iinc 5 1, 3) := by decide +kernel
theorem dX11_comes_128 : decode cX11_comes 128 = .ok (.goto (-78), 3) := by decide +kernel
theorem dX11_comes_131 : decode cX11_comes 131 = .ok (.lconst 0, 1) := by decide +kernel
theorem dX11_comes_132 : decode cX11_comes 132 = .ok (.lstore 5, 2) := by decide +kernel
theorem dX11_comes_134 : decode cX11_comes 134 = .ok (.iconst 0, 1) := by decide +kernel
theorem dX11_comes_135 : decode cX11_comes 135 = .ok (.istore 7, 2) := by decide +kernel
theorem dX11_comes_137 : decode cX11_comes 137 = .ok (.iload 7, 2) := by decide +kernel
theorem dX11_comes_139 : decode cX11_comes 139 = .ok (.iload_n 1, 1) := by decide +kernel
theorem dX11_comes_140 : decode cX11_comes 140 = .ok (.if_icmp .ge 19, 3) := by decide +kernel
theorem dX11_comes_143 : decode cX11_comes 143 = .ok (.lload 5, 2) := by decide +kernel
theorem dX11_comes_145 : decode cX11_comes 145 = .ok (.aload 4, 2) := by decide +kernel
theorem dX11_comes_147 : decode cX11_comes 147 = .ok (.iload 7, 2) := by decide +kernel
theorem dX11_comes_149 : decode cX11_comes 149 = .ok (.laload, 1) := by decide +kernel
theorem dX11_comes_150 : decode cX11_comes 150 = .ok (.ladd, 1) := by decide +kernel
theorem dX11_comes_151 : decode cX11_comes 151 = .ok (.lstore 5, 2) := by decide +kernel
theorem dX11_comes_153 : decode cX11_comes 153 = .ok (.iinc 7 1, 3) := by decide +kernel
theorem dX11_comes_156 : decode cX11_comes 156 = .ok (.goto (-19), 3) := by decide +kernel
theorem dX11_comes_159 : decode cX11_comes 159 = .ok (.lload 5, 2) := by decide +kernel
theorem dX11_comes_161 : decode cX11_comes 161 = .ok (.lreturn, 1) := by decide +kernel
abbrev mX11_comes : zq_M := (cX11_comes, RX11, "comes", (some .long), 8)
theorem zq_al : Cond.arrayClass .long ∈ zq_ws := zq_in (zq_t5 (List.mem_of_getElem? (i := 73) rfl)) rfl
section ZK24
variable {l : Launch} {G : zq_G} {D n n' b : Nat} {κ κ' : zl_S} {σ τ : zm_S} {ρ ρ' : Nat → zq_E} {K K' : Nat → Int32} {m hn t z : Nat} {Ls : Nat → List zLC} {Λ Λ' : List Nat} {post : Option Value → Nat → (Nat → zq_E) → Prop} {S : Int32}
/-- the chances' row -/
def zLr (a : Nat) (g : Nat → Int64) : zq_E := .inl (3, a, .inr (.inl g))
theorem zlr_h (κ : zl_S) (ρ : Nat → zq_E) {C a : Nat} (hC : 70 ≤ C) (g : Nat → Int64) : zl_h κ (va_up ρ C (zLr a g)) C = zLr a g := (zl_hi _ _ (Or.inr hC)).trans (va_up_self _ _ _)
theorem zlr_u (κ : zl_S) (ρ : Nat → zq_E) {C a : Nat} (hC : 70 ≤ C) (g g' : Nat → Int64) : va_up (zl_h κ (va_up ρ C (zLr a g))) C (.inl (3, a, .inr (.inl g'))) = zl_h κ (va_up ρ C (zLr a g')) := by rw [zl_up hC, zce_up]; rfl
theorem zc_comes_1 {a t C : Nat} {f : Nat → Int64} (hC : 70 ≤ C) (ha1 : 1 ≤ a) (ha : a ≤ 20) (hk : ∀ g : Nat → Int64, (∀ j, j < a → g j = zcs S f j) → zq_At l G (zq_rm D 1 20) mX11_comes (zq_QF G post 1 20) 125 [(0, .ref 8), (1, .int (nI a)), (2, .int (nI b)), (3, .int S), (4, .ref C), (5, .int (nI t))] [] n (zl_h κ (va_up ρ C (zLr a g))) 1 a) :
    ∀ i g, i < a → (∀ j, j ≤ i → g j = f j) → (∀ j, i < j → j < a → g j = zcs S f j) → zq_At l G (zq_rm D 1 20) mX11_comes (zq_QF G post 1 20) 61 [(0, .ref 8), (1, .int (nI a)), (2, .int (nI b)), (3, .int S), (4, .ref C), (5, .int (nI t)), (6, .int (nI i))] [] n (zl_h κ (va_up ρ C (zLr a g))) 1 a := by
  intro i
  induction i with
  | zero =>
    intro g hi h1 h2
    have hn := hk (vp_updL g 0 (g 0 * (nI 10 - S).toInt64 / 10)) (fun j hj => by
      by_cases e : j = 0
      · rw [e, updL_s, h1 0 (Nat.le_refl _)]; rfl
      · rw [updL_o _ e]; exact h2 j (by omega) hj)
    refine at_iload dX11_comes_61 rfl ?_
    refine at_if_le (tgt := 107) dX11_comes_63 (by decide) (fun c63 => ?_) (fun c63 => ?_)
    · refine at_aload dX11_comes_107 rfl ?_
      refine at_iconst dX11_comes_109 (v := nI 0) (by decide) ?_
      refine at_aload dX11_comes_110 rfl ?_
      refine at_iconst dX11_comes_112 (v := nI 0) (by decide) ?_
      refine at_lald dX11_comes_113 (zlr_h κ ρ hC g) (pk_in 0 a (by omega)) ?_
      refine at_bipush dX11_comes_114 (v := nI 10) (by decide) ?_
      refine at_iload_n dX11_comes_116 rfl ?_
      refine at_isub dX11_comes_117 ?_
      refine at_i2l dX11_comes_118 ?_
      refine at_lmul dX11_comes_119 ?_
      refine at_ldc2 dX11_comes_120 kl_X11_340 ?_
      refine at_ldiv dX11_comes_123 (by decide) ?_
      refine at_last dX11_comes_124 (zlr_h κ ρ hC g) (pk_in 0 a (by omega)) ?_
      rw [zlr_u κ ρ hC]
      exact at_lv [0, 1, 2, 3, 4, 5] hn
    · exact absurd (by decide) c63
  | succ i ih =>
    intro g hi h1 h2
    have hn := ih (vp_updL g (i + 1) (g (i + 1) * (nI 10 - S).toInt64 / 10 + g i * S.toInt64 / 10)) (by omega) (fun j hj => by rw [updL_o _ (by omega)]; exact h1 j (by omega)) (fun j hj hja => by
      by_cases e : j = i + 1
      · rw [e, updL_s, h1 (i + 1) (Nat.le_refl _), h1 i (by omega)]; rfl
      · rw [updL_o _ e]; exact h2 j (by omega) hja)
    refine at_iload dX11_comes_61 rfl ?_
    refine at_if_le (tgt := 107) dX11_comes_63 (by decide) (fun c63 => ?_) (fun c63 => ?_)
    · exact absurd c63 (fun q => absurd q (Int32.not_le.mpr (nI_lt (a := 0) (by omega) (by omega))))
    · refine at_aload dX11_comes_66 rfl ?_
      refine at_iload dX11_comes_68 rfl ?_
      refine at_aload dX11_comes_70 rfl ?_
      refine at_iload dX11_comes_72 rfl ?_
      refine at_lald dX11_comes_74 (zlr_h κ ρ hC g) (pk_in (i + 1) a (by omega)) ?_
      rw [nI_clamp (by omega)]
      refine at_bipush dX11_comes_75 (v := nI 10) (by decide) ?_
      refine at_iload_n dX11_comes_77 rfl ?_
      refine at_isub dX11_comes_78 ?_
      refine at_i2l dX11_comes_79 ?_
      refine at_lmul dX11_comes_80 ?_
      refine at_ldc2 dX11_comes_81 kl_X11_340 ?_
      refine at_ldiv dX11_comes_84 (by decide) ?_
      refine at_aload dX11_comes_85 rfl ?_
      refine at_iload dX11_comes_87 rfl ?_
      refine at_iconst dX11_comes_89 (v := nI 1) (by decide) ?_
      refine at_isubN dX11_comes_90 (by omega) ?_
      rw [show i + 1 - 1 = i by omega]
      refine at_lald dX11_comes_91 (zlr_h κ ρ hC g) (pk_in i a (by omega)) ?_
      rw [nI_clamp (by omega)]
      refine at_iload_n dX11_comes_92 rfl ?_
      refine at_i2l dX11_comes_93 ?_
      refine at_lmul dX11_comes_94 ?_
      refine at_ldc2 dX11_comes_95 kl_X11_340 ?_
      refine at_ldiv dX11_comes_98 (by decide) ?_
      refine at_ladd dX11_comes_99 ?_
      refine at_last dX11_comes_100 (zlr_h κ ρ hC g) (pk_in (i + 1) a (by omega)) ?_
      rw [nI_clamp (by omega), zlr_u κ ρ hC]
      refine at_iinc dX11_comes_101 rfl rfl (by decide) ?_
      rw [show nI (i + 1) + Int32.ofInt (-1) = nI i from (by rw [nI_succ]; show nI i + 1 + -1 = nI i; rw [Int32.add_assoc]; show nI i + 0 = nI i; rw [Int32.add_zero])]
      refine at_goto (tgt := 61) dX11_comes_104 (by decide) ?_
      exact at_lv [0, 1, 2, 3, 4, 5, 6] hn
theorem zc_comes_2 {a C : Nat} (hC : 70 ≤ C) (ha1 : 1 ≤ a) (ha : a ≤ 20) (hb : b ≤ 99) (hk : ∀ g : Nat → Int64, (∀ j, j < a → g j = zcit S b j) → zq_At l G (zq_rm D 1 20) mX11_comes (zq_QF G post 1 20) 131 [(0, .ref 8), (1, .int (nI a)), (4, .ref C)] [] n (zl_h κ (va_up ρ C (zLr a g))) 1 a) :
    ∀ k t g, t + k = b → (∀ j, j < a → g j = zcit S t j) → zq_At l G (zq_rm D 1 20) mX11_comes (zq_QF G post 1 20) 50 [(0, .ref 8), (1, .int (nI a)), (2, .int (nI b)), (3, .int S), (4, .ref C), (5, .int (nI t))] [] n (zl_h κ (va_up ρ C (zLr a g))) 1 a := by
  intro k
  induction k with
  | zero =>
    intro t g ht hg
    obtain rfl : t = b := ht
    have he := hk g hg
    refine at_iload dX11_comes_50 rfl ?_
    refine at_iload_n dX11_comes_52 rfl ?_
    refine at_geN (tgt := 131) dX11_comes_53 (by decide) (by omega) (by omega) (fun c53 => ?_) (fun c53 => ?_)
    · exact at_lv [0, 1, 4] he
    · omega
  | succ k ih =>
    intro t g ht hg
    refine at_iload dX11_comes_50 rfl ?_
    refine at_iload_n dX11_comes_52 rfl ?_
    refine at_geN (tgt := 131) dX11_comes_53 (by decide) (by omega) (by omega) (fun c53 => ?_) (fun c53 => ?_)
    · omega
    · refine at_iload_n dX11_comes_56 rfl ?_
      refine at_iconst dX11_comes_57 (v := nI 1) (by decide) ?_
      refine at_isubN dX11_comes_58 (by omega) ?_
      refine at_istore dX11_comes_59 (by decide) ?_
      refine at_lv [0, 1, 2, 3, 4, 5, 6] (zc_comes_1 (f := g) hC ha1 ha (fun g2 hg2 => ?_) (a - 1) g (by omega) (fun _ _ => rfl) (fun j h1 h2 => by omega))
      have hn := ih (t + 1) g2 (by omega) (fun j hj => by
        rw [hg2 j hj]
        cases j with
        | zero => show g 0 * _ / 10 = zcit _ t 0 * _ / 10; rw [hg 0 hj]
        | succ j => show g (j + 1) * _ / 10 + g j * _ / 10 = zcit _ t (j + 1) * _ / 10 + zcit _ t j * _ / 10; rw [hg (j + 1) hj, hg j (by omega)])
      refine at_iincN dX11_comes_125 rfl (by decide) ?_
      refine at_goto (tgt := 50) dX11_comes_128 (by decide) ?_
      exact at_lv [0, 1, 2, 3, 4, 5] hn
theorem zc_comes_3 {a C : Nat} {g f : Nat → Int64} (hC : 70 ≤ C) (ha : a ≤ 20) (hg : ∀ j, j < a → g j = f j) (hp : post (some (.long (zcsum f a))) n (zl_h κ (va_up ρ C (zLr a g)))) : ∀ (k i : Nat), i + k = a → zq_At l G (zq_rm D 1 20) mX11_comes (zq_QF G post 1 20) 137 [(0, .ref 8), (1, .int (nI a)), (4, .ref C), (5, .long (zcsum f i)), (7, .int (nI i))] [] n (zl_h κ (va_up ρ C (zLr a g))) 1 a := by
  intro k
  induction k with
  | zero =>
    intro i hi
    obtain rfl : i = a := hi
    refine at_iload dX11_comes_137 rfl ?_
    refine at_iload_n dX11_comes_139 rfl ?_
    refine at_geN (tgt := 159) dX11_comes_140 (by decide) (by omega) (by omega) (fun c140 => ?_) (fun c140 => ?_)
    · refine at_lload dX11_comes_159 rfl ?_
      refine at_lret dX11_comes_161 rfl (by omega) (by omega) ?_
      exact hp
    · omega
  | succ k ih =>
    intro i hi
    have hn := ih (i + 1) (by omega)
    unfold zcsum at hn
    refine at_iload dX11_comes_137 rfl ?_
    refine at_iload_n dX11_comes_139 rfl ?_
    refine at_geN (tgt := 159) dX11_comes_140 (by decide) (by omega) (by omega) (fun c140 => ?_) (fun c140 => ?_)
    · omega
    · refine at_lload dX11_comes_143 rfl ?_
      refine at_aload dX11_comes_145 rfl ?_
      refine at_iload dX11_comes_147 rfl ?_
      refine at_lald dX11_comes_149 (zlr_h κ ρ hC g) (pk_in i a (by omega)) ?_
      rw [nI_clamp (by omega), hg i (by omega)]
      refine at_ladd dX11_comes_150 ?_
      refine at_lstore dX11_comes_151 (by decide) ?_
      refine at_iincN dX11_comes_153 rfl (by decide) ?_
      refine at_goto (tgt := 137) dX11_comes_156 (by decide) ?_
      exact at_lv [0, 1, 4, 5, 7] hn
theorem zk_comes {u v : Int32} (hD : 88 ≤ D) (h : zIV n κ σ ρ K m hn t z Ls Λ) : zCase l G D 1 20 yX11_comes yX12_comes [.int u, .int v] n κ σ ρ := by
  intro P1 h1
  have n90 := h.1.1
  have eK := h.1.2.2.1
  have eS : κ.2.1 (9 + 7) 1 = K 71 := h.2.2.1.2.2.2.2.2.2.2.1.2.1
  cases e : zlies 1 20 u && zlies 0 99 v with
  | false =>
    have hp := h1 (.long (-1)) n (zl_h κ (zm_h σ ρ)) (by exact ⟨rfl, _, rfl⟩) (fun P2 h2 => by
      rw [zlm]
      refine zm_comes (by omega) (fun _ => ?_) (fun a b g a1 a2 b2 ea eb => ?_)
      · rw [← zlm]
        exact h2 _ _ _ _ (zfin h)
      · rw [ea, eb, zlies_i (by decide) (by decide) a1 a2, zlies_i (by decide) (by decide) (Nat.zero_le _) b2] at e; cases e)
    have hge : ¬ u < nI 1 → ¬ nI 20 < u → ¬ v < 0 → ¬ nI 99 < v → False := fun q1 q2 q3 q4 => by
      unfold zlies at e
      rw [decide_eq_true (Int32.not_lt.mp q1), decide_eq_true (Int32.not_lt.mp q2), decide_eq_true (show nI 0 ≤ v from Int32.not_lt.mp q3), decide_eq_true (Int32.not_lt.mp q4)] at e; cases e
    refine zq_enter (cc := cX11_comes) (nL := 8) (ret := (some .long)) cw_X11_comes (by decide) rfl (Nat.le_of_ble_eq_true rfl) ?_
    refine at_iload_n dX11_comes_0 rfl ?_
    refine at_iconst dX11_comes_1 (v := nI 1) (by decide) ?_
    refine at_icmp_lt (tgt := 21) dX11_comes_2 (by decide) (fun c2 => ?_) (fun c2 => ?_)
    · refine at_ldc2 dX11_comes_21 kl_X11_336 ?_
      refine at_lret dX11_comes_24 rfl (by omega) (by omega) ?_
      exact hp
    · refine at_iload_n dX11_comes_5 rfl ?_
      refine at_bipush dX11_comes_6 (v := nI 20) (by decide) ?_
      refine at_icmp_gt (tgt := 21) dX11_comes_8 (by decide) (fun c8 => ?_) (fun c8 => ?_)
      · refine at_ldc2 dX11_comes_21 kl_X11_336 ?_
        refine at_lret dX11_comes_24 rfl (by omega) (by omega) ?_
        exact hp
      · refine at_iload_n dX11_comes_11 rfl ?_
        refine at_if_lt (tgt := 21) dX11_comes_12 (by decide) (fun c12 => ?_) (fun c12 => ?_)
        · refine at_ldc2 dX11_comes_21 kl_X11_336 ?_
          refine at_lret dX11_comes_24 rfl (by omega) (by omega) ?_
          exact hp
        · refine at_iload_n dX11_comes_15 rfl ?_
          refine at_bipush dX11_comes_16 (v := nI 99) (by decide) ?_
          refine at_icmp_le (tgt := 25) dX11_comes_18 (by decide) (fun c18 => ?_) (fun c18 => ?_)
          · exact (hge c2 c8 c12 (Int32.not_lt.mpr c18)).elim
          · refine at_ldc2 dX11_comes_21 kl_X11_336 ?_
            refine at_lret dX11_comes_24 rfl (by omega) (by omega) ?_
            exact hp
  | true =>
    have e' := e
    rw [Bool.and_eq_true] at e'
    obtain ⟨a, a1, a2, rfl⟩ := zlies_t (by decide) (by decide) e'.1
    obtain ⟨b, b1, b2, rfl⟩ := zlies_t (by decide) (by decide) e'.2
    have hp : ∀ g, P1 (some (.long (zcsum (zcit (K 71) b) a))) (n + 1) (zl_h κ (va_up (zm_h σ ρ) (n + 8) (zLr a g))) := fun g => h1 _ (n + 1) _ (by exact ⟨rfl, zm_fs σ.1, (zl_hi _ _ (Or.inr (by decide))).trans (va_up_ne _ _ (by omega))⟩) (fun P2 h2 => by
      have hr : ∀ k, k < n + 8 → va_up (zm_h σ ρ) (n + 8) (zLr a g) k = zm_h σ ρ k := fun k hk => va_up_ne _ _ (by omega)
      have hρ := zm_hs n90 hr
      rw [← hρ, zlm]
      refine zm_comes (by omega) (fun f => ?_) (fun a' b' g' _ _ _ ea eb => ?_)
      · rw [show ((decide (nI 1 ≤ nI a) && decide (nI a ≤ nI 20)) && (decide (nI 0 ≤ nI b) && decide (nI b ≤ nI 99))) = true from e] at f; cases f
      · rw [show a' = a from ((nI_eq (by omega) (by omega)).mp ea).symm, show b' = b from ((nI_eq (by omega) (by omega)).mp eb).symm, eK, ← zlm]
        refine h2 _ _ _ _ (zfin (zIV_g (zIV_n h (Nat.le_succ _) (fun k k1 k2 => (hr k k2).trans (zm_hx _ _ (Or.inr k1))) (fun k fs k1 k2 e7 => ?_)) ⟨fun _ _ => rfl, fun _ _ => rfl⟩ (zIV_rk h)))
        rw [show k = n + 8 by omega, va_up_self] at e7
        cases e7)
    rw [← eS] at hp
    refine zq_enter (cc := cX11_comes) (nL := 8) (ret := (some .long)) cw_X11_comes (by decide) rfl (Nat.le_of_ble_eq_true rfl) ?_
    refine at_iload_n dX11_comes_0 rfl ?_
    refine at_iconst dX11_comes_1 (v := nI 1) (by decide) ?_
    refine at_ltN (tgt := 21) dX11_comes_2 (by decide) (by omega) (by omega) (fun c2 => ?_) (fun c2 => ?_)
    · omega
    · refine at_iload_n dX11_comes_5 rfl ?_
      refine at_bipush dX11_comes_6 (v := nI 20) (by decide) ?_
      refine at_gtN (tgt := 21) dX11_comes_8 (by decide) (by omega) (by omega) (fun c8 => ?_) (fun c8 => ?_)
      · omega
      · refine at_iload_n dX11_comes_11 rfl ?_
        refine at_if_ltN (tgt := 21) dX11_comes_12 (by decide) (by omega) (fun c12 => ?_) (fun c12 => ?_)
        · exact c12.elim
        · refine at_iload_n dX11_comes_15 rfl ?_
          refine at_bipush dX11_comes_16 (v := nI 99) (by decide) ?_
          refine at_leN (tgt := 25) dX11_comes_18 (by decide) (by omega) (by omega) (fun c18 => ?_) (fun c18 => ?_)
          · refine at_aload_n dX11_comes_25 rfl ?_
            refine at_get dX11_comes_26 fl_X11_12 (zl_o rfl) rfl ?_
            refine at_get dX11_comes_29 fl_X11_172 (zl_q zQ9) rfl ?_
            refine at_iconst dX11_comes_32 (v := nI 1) (by decide) ?_
            refine at_uld (b := 9) (c := 7) dX11_comes_33 zQ9 (by decide) (by decide) rfl (by show _ < 3; omega) ?_
            refine at_istore_n dX11_comes_34 rfl (by decide) ?_
            refine at_iload_n dX11_comes_35 rfl ?_
            refine at_newa (t := 3) (N := a) (by decide) dX11_comes_36 zq_al (nI_pos (by omega)) (nI_clamp (by omega)) (by omega) (by show 0 + 1 ≤ 1; omega) (by show 0 + a ≤ 20; omega) ?_
            rw [zl_up (by omega), show zq_blank 3 a = zLr a (fun _ => 0) from rfl]
            refine at_astore dX11_comes_38 (by decide) ?_
            refine at_aload dX11_comes_40 rfl ?_
            refine at_iconst dX11_comes_42 (v := nI 0) (by decide) ?_
            refine at_ldc2 dX11_comes_43 kl_X11_338 ?_
            refine at_last dX11_comes_46 (zlr_h κ _ (by omega) _) (pk_in 0 a (by omega)) ?_
            rw [zlr_u κ _ (by omega), Nat.zero_add, Nat.zero_add]
            have h2 := zc_comes_2 (l := l) (G := G) (D := D) (n := n + 1) (κ := κ) (ρ := zm_h σ ρ) (post := P1) (S := κ.2.1 (9 + 7) 1) (b := b) (C := n + 8) (by omega) a1 a2 b2 (fun g hg => by
              have h3 := zc_comes_3 (l := l) (G := G) (D := D) (n := n + 1) (κ := κ) (ρ := zm_h σ ρ) (post := P1) (C := n + 8) (by omega) a2 hg (hp g) a 0 (Nat.zero_add _)
              refine at_lconst dX11_comes_131 (v := 0) rfl ?_
              refine at_lstore dX11_comes_132 (by decide) ?_
              refine at_iconst dX11_comes_134 (v := nI 0) (by decide) ?_
              refine at_istore dX11_comes_135 (by decide) ?_
              exact at_lv [0, 1, 4, 5, 7] h3
              ) b 0 (vp_updL (fun _ => 0) (nI 0).toNatClampNeg 1000000000000) (Nat.zero_add _) (fun j hj => by
                show (if j = 0 then _ else _) = if j = 0 then _ else _
                rfl)
            refine at_iconst dX11_comes_47 (v := nI 0) (by decide) ?_
            refine at_istore dX11_comes_48 (by decide) ?_
            exact at_lv [0, 1, 2, 3, 4, 5] h2
          · omega
end ZK24

