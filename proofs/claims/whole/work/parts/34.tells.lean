/-! ===== the Model asks the law in force ===== -/
/-- a law's clause: its head (1 strokes, 2 steps, 3 bars), its sum, its test -/
abbrev zLC : Type := Nat × zX × zX
def zSpC (cd vl : Nat → Nat) (c : zLC) (i j : Nat) : Prop :=
  ∃ k, ((cd i = 3 ∧ c.1 = 3 ∧ c.2.1 = zx_num 1 ∧ k = i + 1) ∨ ((cd i = 1 ∨ cd i = 2) ∧ c.1 = cd i ∧ zSpS cd vl false 9 c.2.1 (i + 1) k)) ∧
    ((cd k ≠ 4 ∧ c.2.2 = zx_num 1 ∧ j = k) ∨ (cd k = 4 ∧ zSpT cd vl false 9 c.2.2 (k + 1) j))
def zSpCs (cd vl : Nat → Nat) (E : Nat) : List zLC → Nat → Prop
  | [], i => i = E + 1
  | c :: cs, i => ∃ j, zSpC cd vl c i j ∧ zSpCs cd vl E cs (j + 1)
def zclamp (x : Int) : Int := if x < 0 then 0 else if 99 < x then 99 else x
def ztold1 (w : Nat → Nat → Int) (h : Nat) (t : Int) (c : zLC) : Int := if c.1 = h ∧ c.2.2 w = some 1 then (match c.2.1 w with | some x => zclamp x | none => t) else t
/-- what a law tells: the last clause that says it -/
def zlaw (w : Nat → Nat → Int) (h : Nat) (t : Int) (L : List zLC) : Int := L.foldl (ztold1 w h) t
theorem ztold1_b {w : Nat → Nat → Int} {h : Nat} {t : Int} {c : zLC} (ht : 0 ≤ t ∧ t ≤ 99) : 0 ≤ ztold1 w h t c ∧ ztold1 w h t c ≤ 99 := by
  unfold ztold1
  split
  · split
    · unfold zclamp
      split
      · omega
      · split <;> omega
    · exact ht
  · exact ht
theorem zlaw_b {w : Nat → Nat → Int} {h : Nat} : ∀ (L : List zLC) {t : Int}, (0 ≤ t ∧ t ≤ 99) → 0 ≤ zlaw w h t L ∧ zlaw w h t L ≤ 99
  | [], _, ht => ht
  | c :: cs, _, ht => zlaw_b cs (ztold1_b ht)
/-- the u-th law of those that are kept -/
def zLawAt (K : Nat → Int32) (u : Nat) (L : List zLC) : Prop := ∃ (E : Nat) (cd vl : Nat → Nat), E ≤ 400 ∧ K (77 + u) = nI E ∧ (∀ k, E ≤ k → cd k = 0) ∧ (∀ k, cd k < 1000) ∧ (∀ k, k < E → K (84 + (400 * u + k)) = nI (cd k) ∧ K (2884 + (400 * u + k)) = nI (vl k)) ∧ zSpCs cd vl E L 0
/-- the law in force -/
def zForce (K : Nat → Int32) (Lo : Option (List zLC)) : Prop := (K 76 = -1 ∧ Lo = none) ∨ ∃ u L, u < 6 ∧ K 76 = nI u ∧ zLawAt K u L ∧ Lo = some L
def ztell (w : Nat → Nat → Int) (h : Nat) (t : Int) (Lo : Option (List zLC)) : Int := match Lo with
  | none => t
  | some L => zlaw w h t L
/-- alike but for where a reckoning is and what it is asked -/
def zTe (σ τ : zm_S) : Prop := (∀ k, k < 23 ∨ 26 < k → σ.1 k = τ.1 k) ∧ (∀ a, a ≠ 83 → σ.2.1 a = τ.2.1 a) ∧ σ.2.2 = τ.2.2
theorem zTe_r (σ : zm_S) : zTe σ σ := ⟨fun _ _ => rfl, fun _ _ => rfl, rfl⟩
theorem zTe_t {σ τ υ : zm_S} (h : zTe σ τ) (g : zTe τ υ) : zTe σ υ := ⟨fun k hk => (h.1 k hk).trans (g.1 k hk), fun k hk => (h.2.1 k hk).trans (g.2.1 k hk), h.2.2.trans g.2.2⟩
theorem zTe_i {σ τ : zm_S} {k : Nat} {v : Int32} (h1 : 23 ≤ k) (h2 : k ≤ 26) (h : zTe σ τ) : zTe (zm_si σ k v) τ := ⟨fun j hj => by rw [zsi_o _ (by omega)]; exact h.1 j hj, h.2⟩
theorem zTe_a {σ τ : zm_S} {g : Nat → Int32} (h : zTe σ τ) : zTe (zsA σ 83 g) τ := ⟨h.1, fun j hj => by rw [zsA_o _ hj]; exact h.2.1 j hj, h.2.2⟩
theorem zTe_g {σ τ : zm_S} {i : Nat} {b : Bool} (h : zTe σ τ) : zTe (zg σ i b) τ := zTe_i (by decide) (by decide) (zTe_i (by decide) (by decide) h)
theorem zTe_Es {σ τ : zm_S} (h : zTe σ τ) : zEs σ τ := ⟨fun k hk => h.1 k (by
  rcases Nat.lt_or_ge k 23 with g | g
  · exact Or.inl g
  · rcases Nat.lt_or_ge 26 k with g2 | g2
    · exact Or.inr g2
    · exfalso
      rcases (show k = 23 ∨ k = 24 ∨ k = 25 ∨ k = 26 by omega) with rfl | rfl | rfl | rfl <;> cases hk), fun a ha => h.2.1 a (by rintro rfl; cases ha)⟩
theorem zTe_c {σ τ : zm_S} {m : Nat} {x w rk : Nat → Nat} (h : zTe σ τ) (hC : zC τ m x w rk) : zC σ m x w rk := zC_congr hC (h.2.1 72 (by decide)) (h.2.1 76 (by decide))
theorem dX12_setsAsked_0 : decode cX12_setsAsked 0 = .ok (.aload_n 0, 1) := by decide +kernel
theorem dX12_setsAsked_1 : decode cX12_setsAsked 1 = .ok (.getfield 80, 3) := by decide +kernel
theorem dX12_setsAsked_4 : decode cX12_setsAsked 4 = .ok (.iconst 0, 1) := by decide +kernel
theorem dX12_setsAsked_5 : decode cX12_setsAsked 5 = .ok (.iload_n 1, 1) := by decide +kernel
theorem dX12_setsAsked_6 : decode cX12_setsAsked 6 = .ok (.iastore, 1) := by decide +kernel
theorem dX12_setsAsked_7 : decode cX12_setsAsked 7 = .ok (.aload_n 0, 1) := by decide +kernel
theorem dX12_setsAsked_8 : decode cX12_setsAsked 8 = .ok (.getfield 80, 3) := by decide +kernel
theorem dX12_setsAsked_11 : decode cX12_setsAsked 11 = .ok (.iconst 1, 1) := by decide +kernel
theorem dX12_setsAsked_12 : decode cX12_setsAsked 12 = .ok (.aload_n 0, 1) := by decide +kernel
theorem dX12_setsAsked_13 : decode cX12_setsAsked 13 = .ok (.iload_n 1, 1) := by decide +kernel
theorem dX12_setsAsked_14 : decode cX12_setsAsked 14 = .ok (.invokevirtual 155, 3) := by decide +kernel
theorem dX12_setsAsked_17 : decode cX12_setsAsked 17 = .ok (.iastore, 1) := by decide +kernel
theorem dX12_setsAsked_18 : decode cX12_setsAsked 18 = .ok (.aload_n 0, 1) := by decide +kernel
theorem dX12_setsAsked_19 : decode cX12_setsAsked 19 = .ok (.getfield 80, 3) := by decide +kernel
theorem dX12_setsAsked_22 : decode cX12_setsAsked 22 = .ok (.iconst 2, 1) := by decide +kernel
theorem dX12_setsAsked_23 : decode cX12_setsAsked 23 = .ok (.aload_n 0, 1) := by decide +kernel
theorem dX12_setsAsked_24 : decode cX12_setsAsked 24 = .ok (.getfield 42, 3) := by decide +kernel
theorem dX12_setsAsked_27 : decode cX12_setsAsked 27 = .ok (.iconst 0, 1) := by decide +kernel
theorem dX12_setsAsked_28 : decode cX12_setsAsked 28 = .ok (.iload_n 1, 1) := by decide +kernel
theorem dX12_setsAsked_29 : decode cX12_setsAsked 29 = .ok (.iadd, 1) := by decide +kernel
theorem dX12_setsAsked_30 : decode cX12_setsAsked 30 = .ok (.iaload, 1) := by decide +kernel
theorem dX12_setsAsked_31 : decode cX12_setsAsked 31 = .ok (.invokestatic 22, 3) := by decide +kernel
theorem dX12_setsAsked_34 : decode cX12_setsAsked 34 = .ok (.iastore, 1) := by decide +kernel
theorem dX12_setsAsked_35 : decode cX12_setsAsked 35 = .ok (.aload_n 0, 1) := by decide +kernel
theorem dX12_setsAsked_36 : decode cX12_setsAsked 36 = .ok (.getfield 80, 3) := by decide +kernel
theorem dX12_setsAsked_39 : decode cX12_setsAsked 39 = .ok (.iconst 3, 1) := by decide +kernel
theorem dX12_setsAsked_40 : decode cX12_setsAsked 40 = .ok (.iload_n 2, 1) := by decide +kernel
theorem dX12_setsAsked_41 : decode cX12_setsAsked 41 = .ok (.iastore, 1) := by decide +kernel
theorem dX12_setsAsked_42 : decode cX12_setsAsked 42 = .ok (.aload_n 0, 1) := by decide +kernel
theorem dX12_setsAsked_43 : decode cX12_setsAsked 43 = .ok (.getfield 80, 3) := by decide +kernel
theorem dX12_setsAsked_46 : decode cX12_setsAsked 46 = .ok (.iconst 4, 1) := by decide +kernel
theorem dX12_setsAsked_47 : decode cX12_setsAsked 47 = .ok (.iload_n 2, 1) := by decide +kernel
theorem dX12_setsAsked_48 : decode cX12_setsAsked 48 = .ok (.iconst (-1), 1) := by decide +kernel
theorem dX12_setsAsked_49 : decode cX12_setsAsked 49 = .ok (.if_icmp .ne 7, 3) := by decide +kernel
theorem dX12_setsAsked_52 : decode cX12_setsAsked 52 = .ok (.iconst (-1), 1) := by decide +kernel
theorem dX12_setsAsked_53 : decode cX12_setsAsked 53 = .ok (.goto 15, 3) := by decide +kernel
theorem dX12_setsAsked_56 : decode cX12_setsAsked 56 = .ok (.aload_n 0, 1) := by decide +kernel
theorem dX12_setsAsked_57 : decode cX12_setsAsked 57 = .ok (.getfield 42, 3) := by decide +kernel
theorem dX12_setsAsked_60 : decode cX12_setsAsked 60 = .ok (.iconst 0, 1) := by decide +kernel
theorem dX12_setsAsked_61 : decode cX12_setsAsked 61 = .ok (.iload_n 1, 1) := by decide +kernel
theorem dX12_setsAsked_62 : decode cX12_setsAsked 62 = .ok (.iadd, 1) := by decide +kernel
theorem dX12_setsAsked_63 : decode cX12_setsAsked 63 = .ok (.iaload, 1) := by decide +kernel
theorem dX12_setsAsked_64 : decode cX12_setsAsked 64 = .ok (.iload_n 2, 1) := by decide +kernel
theorem dX12_setsAsked_65 : decode cX12_setsAsked 65 = .ok (.invokestatic 28, 3) := by decide +kernel
theorem dX12_setsAsked_68 : decode cX12_setsAsked 68 = .ok (.iastore, 1) := by decide +kernel
theorem dX12_setsAsked_69 : decode cX12_setsAsked 69 = .ok (.aload_n 0, 1) := by decide +kernel
theorem dX12_setsAsked_70 : decode cX12_setsAsked 70 = .ok (.getfield 80, 3) := by decide +kernel
theorem dX12_setsAsked_73 : decode cX12_setsAsked 73 = .ok (.iconst 5, 1) := by decide +kernel
theorem dX12_setsAsked_74 : decode cX12_setsAsked 74 = .ok (.iload_n 3, 1) := by decide +kernel
theorem dX12_setsAsked_75 : decode cX12_setsAsked 75 = .ok (.iastore, 1) := by decide +kernel
theorem dX12_setsAsked_76 : decode cX12_setsAsked 76 = .ok (.aload_n 0, 1) := by decide +kernel
theorem dX12_setsAsked_77 : decode cX12_setsAsked 77 = .ok (.getfield 80, 3) := by decide +kernel
theorem dX12_setsAsked_80 : decode cX12_setsAsked 80 = .ok (.bipush 6, 2) := by decide +kernel
theorem dX12_setsAsked_82 : decode cX12_setsAsked 82 = .ok (.aload_n 0, 1) := by decide +kernel
theorem dX12_setsAsked_83 : decode cX12_setsAsked 83 = .ok (.getfield 42, 3) := by decide +kernel
theorem dX12_setsAsked_86 : decode cX12_setsAsked 86 = .ok (.bipush 72, 2) := by decide +kernel
theorem dX12_setsAsked_88 : decode cX12_setsAsked 88 = .ok (.iaload, 1) := by decide +kernel
theorem dX12_setsAsked_89 : decode cX12_setsAsked 89 = .ok (.iastore, 1) := by decide +kernel
theorem dX12_setsAsked_90 : decode cX12_setsAsked 90 = .ok (.aload_n 0, 1) := by decide +kernel
theorem dX12_setsAsked_91 : decode cX12_setsAsked 91 = .ok (.getfield 80, 3) := by decide +kernel
theorem dX12_setsAsked_94 : decode cX12_setsAsked 94 = .ok (.bipush 7, 2) := by decide +kernel
theorem dX12_setsAsked_96 : decode cX12_setsAsked 96 = .ok (.aload_n 0, 1) := by decide +kernel
theorem dX12_setsAsked_97 : decode cX12_setsAsked 97 = .ok (.getfield 42, 3) := by decide +kernel
theorem dX12_setsAsked_100 : decode cX12_setsAsked 100 = .ok (.bipush 19, 2) := by decide +kernel
theorem dX12_setsAsked_102 : decode cX12_setsAsked 102 = .ok (.iaload, 1) := by decide +kernel
theorem dX12_setsAsked_103 : decode cX12_setsAsked 103 = .ok (.iastore, 1) := by decide +kernel
theorem dX12_setsAsked_104 : decode cX12_setsAsked 104 = .ok (.return_, 1) := by decide +kernel
abbrev mX12_setsAsked : zq_M := (cX12_setsAsked, RX12, "setsAsked", none, 4)
theorem dX12_tells_0 : decode cX12_tells 0 = .ok (.aload_n 0, 1) := by decide +kernel
theorem dX12_tells_1 : decode cX12_tells 1 = .ok (.getfield 42, 3) := by decide +kernel
theorem dX12_tells_4 : decode cX12_tells 4 = .ok (.bipush 76, 2) := by decide +kernel
theorem dX12_tells_6 : decode cX12_tells 6 = .ok (.iaload, 1) := by decide +kernel
theorem dX12_tells_7 : decode cX12_tells 7 = .ok (.iconst (-1), 1) := by decide +kernel
theorem dX12_tells_8 : decode cX12_tells 8 = .ok (.if_icmp .ne 6, 3) := by decide +kernel
theorem dX12_tells_11 : decode cX12_tells 11 = .ok (.iload 5, 2) := by decide +kernel
theorem dX12_tells_13 : decode cX12_tells 13 = .ok (.ireturn, 1) := by decide +kernel
theorem dX12_tells_14 : decode cX12_tells 14 = .ok (.aload_n 0, 1) := by decide +kernel
theorem dX12_tells_15 : decode cX12_tells 15 = .ok (.iload_n 2, 1) := by decide +kernel
theorem dX12_tells_16 : decode cX12_tells 16 = .ok (.iload_n 3, 1) := by decide +kernel
theorem dX12_tells_17 : decode cX12_tells 17 = .ok (.iload 4, 2) := by decide +kernel
theorem dX12_tells_19 : decode cX12_tells 19 = .ok (.invokevirtual 352, 3) := by decide +kernel
theorem dX12_tells_22 : decode cX12_tells 22 = .ok (.aload_n 0, 1) := by decide +kernel
theorem dX12_tells_23 : decode cX12_tells 23 = .ok (.iconst 0, 1) := by decide +kernel
theorem dX12_tells_24 : decode cX12_tells 24 = .ok (.putfield 316, 3) := by decide +kernel
theorem dX12_tells_27 : decode cX12_tells 27 = .ok (.iload 5, 2) := by decide +kernel
theorem dX12_tells_29 : decode cX12_tells 29 = .ok (.i2l, 1) := by decide +kernel
theorem dX12_tells_30 : decode cX12_tells 30 = .ok (.lstore 6, 2) := by decide +kernel
theorem dX12_tells_32 : decode cX12_tells 32 = .ok (.aload_n 0, 1) := by decide +kernel
theorem dX12_tells_33 : decode cX12_tells 33 = .ok (.sipush 400, 3) := by decide +kernel
theorem dX12_tells_36 : decode cX12_tells 36 = .ok (.aload_n 0, 1) := by decide +kernel
theorem dX12_tells_37 : decode cX12_tells 37 = .ok (.getfield 42, 3) := by decide +kernel
theorem dX12_tells_40 : decode cX12_tells 40 = .ok (.bipush 76, 2) := by decide +kernel
theorem dX12_tells_42 : decode cX12_tells 42 = .ok (.iaload, 1) := by decide +kernel
theorem dX12_tells_43 : decode cX12_tells 43 = .ok (.imul, 1) := by decide +kernel
theorem dX12_tells_44 : decode cX12_tells 44 = .ok (.putfield 286, 3) := by decide +kernel
theorem dX12_tells_47 : decode cX12_tells 47 = .ok (.aload_n 0, 1) := by decide +kernel
theorem dX12_tells_48 : decode cX12_tells 48 = .ok (.aload_n 0, 1) := by decide +kernel
theorem dX12_tells_49 : decode cX12_tells 49 = .ok (.getfield 286, 3) := by decide +kernel
theorem dX12_tells_52 : decode cX12_tells 52 = .ok (.aload_n 0, 1) := by decide +kernel
theorem dX12_tells_53 : decode cX12_tells 53 = .ok (.getfield 42, 3) := by decide +kernel
theorem dX12_tells_56 : decode cX12_tells 56 = .ok (.bipush 77, 2) := by decide +kernel
theorem dX12_tells_58 : decode cX12_tells 58 = .ok (.aload_n 0, 1) := by decide +kernel
theorem dX12_tells_59 : decode cX12_tells 59 = .ok (.getfield 42, 3) := by decide +kernel
theorem dX12_tells_62 : decode cX12_tells 62 = .ok (.bipush 76, 2) := by decide +kernel
theorem dX12_tells_64 : decode cX12_tells 64 = .ok (.iaload, 1) := by decide +kernel
theorem dX12_tells_65 : decode cX12_tells 65 = .ok (.iadd, 1) := by decide +kernel
theorem dX12_tells_66 : decode cX12_tells 66 = .ok (.iaload, 1) := by decide +kernel
theorem dX12_tells_67 : decode cX12_tells 67 = .ok (.iadd, 1) := by decide +kernel
theorem dX12_tells_68 : decode cX12_tells 68 = .ok (.putfield 283, 3) := by decide +kernel
theorem dX12_tells_71 : decode cX12_tells 71 = .ok (.aload_n 0, 1) := by decide +kernel
theorem dX12_tells_72 : decode cX12_tells 72 = .ok (.getfield 286, 3) := by decide +kernel
theorem dX12_tells_75 : decode cX12_tells 75 = .ok (.aload_n 0, 1) := by decide +kernel
theorem dX12_tells_76 : decode cX12_tells 76 = .ok (.getfield 283, 3) := by decide +kernel
theorem dX12_tells_79 : decode cX12_tells 79 = .ok (.if_icmp .ge 145, 3) := by decide +kernel
theorem dX12_tells_82 : decode cX12_tells 82 = .ok (.aload_n 0, 1) := by decide +kernel
theorem dX12_tells_83 : decode cX12_tells 83 = .ok (.aload_n 0, 1) := by decide +kernel
theorem dX12_tells_84 : decode cX12_tells 84 = .ok (.getfield 286, 3) := by decide +kernel
theorem dX12_tells_87 : decode cX12_tells 87 = .ok (.invokevirtual 289, 3) := by decide +kernel
theorem dX12_tells_90 : decode cX12_tells 90 = .ok (.istore 8, 2) := by decide +kernel
theorem dX12_tells_92 : decode cX12_tells 92 = .ok (.aload_n 0, 1) := by decide +kernel
theorem dX12_tells_93 : decode cX12_tells 93 = .ok (.iconst 0, 1) := by decide +kernel
theorem dX12_tells_94 : decode cX12_tells 94 = .ok (.putfield 296, 3) := by decide +kernel
theorem dX12_tells_97 : decode cX12_tells 97 = .ok (.aload_n 0, 1) := by decide +kernel
theorem dX12_tells_98 : decode cX12_tells 98 = .ok (.dup, 1) := by decide +kernel
theorem dX12_tells_99 : decode cX12_tells 99 = .ok (.getfield 286, 3) := by decide +kernel
theorem dX12_tells_102 : decode cX12_tells 102 = .ok (.iconst 1, 1) := by decide +kernel
theorem dX12_tells_103 : decode cX12_tells 103 = .ok (.iadd, 1) := by decide +kernel
theorem dX12_tells_104 : decode cX12_tells 104 = .ok (.putfield 286, 3) := by decide +kernel
theorem dX12_tells_107 : decode cX12_tells 107 = .ok (.iload 8, 2) := by decide +kernel
theorem dX12_tells_109 : decode cX12_tells 109 = .ok (.iconst 3, 1) := by decide +kernel
theorem dX12_tells_110 : decode cX12_tells 110 = .ok (.if_icmp .ne 7, 3) := by decide +kernel
theorem dX12_tells_113 : decode cX12_tells 113 = .ok (.lconst 1, 1) := by decide +kernel
theorem dX12_tells_114 : decode cX12_tells 114 = .ok (.goto 8, 3) := by decide +kernel
theorem dX12_tells_117 : decode cX12_tells 117 = .ok (.aload_n 0, 1) := by decide +kernel
theorem dX12_tells_118 : decode cX12_tells 118 = .ok (.iconst 1, 1) := by decide +kernel
theorem dX12_tells_119 : decode cX12_tells 119 = .ok (.invokevirtual 313, 3) := by decide +kernel
theorem dX12_tells_122 : decode cX12_tells 122 = .ok (.lstore 9, 2) := by decide +kernel
theorem dX12_tells_124 : decode cX12_tells 124 = .ok (.aload_n 0, 1) := by decide +kernel
theorem dX12_tells_125 : decode cX12_tells 125 = .ok (.getfield 296, 3) := by decide +kernel
theorem dX12_tells_128 : decode cX12_tells 128 = .ok (.istore 11, 2) := by decide +kernel
theorem dX12_tells_130 : decode cX12_tells 130 = .ok (.aload_n 0, 1) := by decide +kernel
theorem dX12_tells_131 : decode cX12_tells 131 = .ok (.iconst 0, 1) := by decide +kernel
theorem dX12_tells_132 : decode cX12_tells 132 = .ok (.putfield 296, 3) := by decide +kernel
theorem dX12_tells_135 : decode cX12_tells 135 = .ok (.aload_n 0, 1) := by decide +kernel
theorem dX12_tells_136 : decode cX12_tells 136 = .ok (.iconst 4, 1) := by decide +kernel
theorem dX12_tells_137 : decode cX12_tells 137 = .ok (.invokevirtual 310, 3) := by decide +kernel
theorem dX12_tells_140 : decode cX12_tells 140 = .ok (.ifCond .eq 11, 3) := by decide +kernel
theorem dX12_tells_143 : decode cX12_tells 143 = .ok (.aload_n 0, 1) := by decide +kernel
theorem dX12_tells_144 : decode cX12_tells 144 = .ok (.iconst 1, 1) := by decide +kernel
theorem dX12_tells_145 : decode cX12_tells 145 = .ok (.invokevirtual 349, 3) := by decide +kernel
theorem dX12_tells_148 : decode cX12_tells 148 = .ok (.ifCond .eq 7, 3) := by decide +kernel
theorem dX12_tells_151 : decode cX12_tells 151 = .ok (.iconst 1, 1) := by decide +kernel
theorem dX12_tells_152 : decode cX12_tells 152 = .ok (.goto 4, 3) := by decide +kernel
theorem dX12_tells_155 : decode cX12_tells 155 = .ok (.iconst 0, 1) := by decide +kernel
theorem dX12_tells_156 : decode cX12_tells 156 = .ok (.istore 12, 2) := by decide +kernel
theorem dX12_tells_158 : decode cX12_tells 158 = .ok (.iload 8, 2) := by decide +kernel
theorem dX12_tells_160 : decode cX12_tells 160 = .ok (.iload_n 1, 1) := by decide +kernel
theorem dX12_tells_161 : decode cX12_tells 161 = .ok (.if_icmp .ne 50, 3) := by decide +kernel
theorem dX12_tells_164 : decode cX12_tells 164 = .ok (.iload 12, 2) := by decide +kernel
theorem dX12_tells_166 : decode cX12_tells 166 = .ok (.ifCond .eq 45, 3) := by decide +kernel
theorem dX12_tells_169 : decode cX12_tells 169 = .ok (.aload_n 0, 1) := by decide +kernel
theorem dX12_tells_170 : decode cX12_tells 170 = .ok (.getfield 296, 3) := by decide +kernel
theorem dX12_tells_173 : decode cX12_tells 173 = .ok (.ifCond .ne 38, 3) := by decide +kernel
theorem dX12_tells_176 : decode cX12_tells 176 = .ok (.iload 11, 2) := by decide +kernel
theorem dX12_tells_178 : decode cX12_tells 178 = .ok (.ifCond .ne 33, 3) := by decide +kernel
theorem dX12_tells_181 : decode cX12_tells 181 = .ok (.lload 9, 2) := by decide +kernel
theorem dX12_tells_183 : decode cX12_tells 183 = .ok (.lconst 0, 1) := by decide +kernel
theorem dX12_tells_184 : decode cX12_tells 184 = .ok (.lcmp, 1) := by decide +kernel
theorem dX12_tells_185 : decode cX12_tells 185 = .ok (.ifCond .ge 7, 3) := by decide +kernel
theorem dX12_tells_188 : decode cX12_tells 188 = .ok (.lconst 0, 1) := by decide +kernel
theorem dX12_tells_189 : decode cX12_tells 189 = .ok (.goto 20, 3) := by decide +kernel
theorem dX12_tells_192 : decode cX12_tells 192 = .ok (.lload 9, 2) := by decide +kernel
theorem dX12_tells_194 : decode cX12_tells 194 = .ok (.ldc2_w 356, 3) := by decide +kernel
theorem dX12_tells_197 : decode cX12_tells 197 = .ok (.lcmp, 1) := by decide +kernel
theorem dX12_tells_198 : decode cX12_tells 198 = .ok (.ifCond .le 9, 3) := by decide +kernel
theorem dX12_tells_201 : decode cX12_tells 201 = .ok (.ldc2_w 356, 3) := by decide +kernel
theorem dX12_tells_204 : decode cX12_tells 204 = .ok (.goto 5, 3) := by decide +kernel
theorem dX12_tells_207 : decode cX12_tells 207 = .ok (.lload 9, 2) := by decide +kernel
theorem dX12_tells_209 : decode cX12_tells 209 = .ok (.lstore 6, 2) := by decide +kernel
theorem dX12_tells_211 : decode cX12_tells 211 = .ok (.aload_n 0, 1) := by decide +kernel
theorem dX12_tells_212 : decode cX12_tells 212 = .ok (.dup, 1) := by decide +kernel
theorem dX12_tells_213 : decode cX12_tells 213 = .ok (.getfield 286, 3) := by decide +kernel
theorem dX12_tells_216 : decode cX12_tells 216 = .ok (.iconst 1, 1) := by decide +kernel
theorem dX12_tells_217 : decode cX12_tells 217 = .ok (.iadd, 1) := by decide +kernel
theorem dX12_tells_218 : decode cX12_tells 218 = .ok (.putfield 286, 3) := by decide +kernel
theorem dX12_tells_221 : decode cX12_tells 221 = .ok (.goto (-150), 3) := by decide +kernel
theorem dX12_tells_224 : decode cX12_tells 224 = .ok (.lload 6, 2) := by decide +kernel
theorem dX12_tells_226 : decode cX12_tells 226 = .ok (.l2i, 1) := by decide +kernel
theorem dX12_tells_227 : decode cX12_tells 227 = .ok (.ireturn, 1) := by decide +kernel
abbrev mX12_tells : zq_M := (cX12_tells, RX12, "tells", (some .int), 13)
theorem dX12_strokeOf_0 : decode cX12_strokeOf 0 = .ok (.aload_n 0, 1) := by decide +kernel
theorem dX12_strokeOf_1 : decode cX12_strokeOf 1 = .ok (.iconst 1, 1) := by decide +kernel
theorem dX12_strokeOf_2 : decode cX12_strokeOf 2 = .ok (.iload_n 1, 1) := by decide +kernel
theorem dX12_strokeOf_3 : decode cX12_strokeOf 3 = .ok (.iload_n 2, 1) := by decide +kernel
theorem dX12_strokeOf_4 : decode cX12_strokeOf 4 = .ok (.iload_n 3, 1) := by decide +kernel
theorem dX12_strokeOf_5 : decode cX12_strokeOf 5 = .ok (.iconst 1, 1) := by decide +kernel
theorem dX12_strokeOf_6 : decode cX12_strokeOf 6 = .ok (.invokevirtual 358, 3) := by decide +kernel
theorem dX12_strokeOf_9 : decode cX12_strokeOf 9 = .ok (.ireturn, 1) := by decide +kernel
abbrev mX12_strokeOf : zq_M := (cX12_strokeOf, RX12, "strokeOf", (some .int), 4)
theorem dX12_stepOf_0 : decode cX12_stepOf 0 = .ok (.aload_n 0, 1) := by decide +kernel
theorem dX12_stepOf_1 : decode cX12_stepOf 1 = .ok (.iconst 2, 1) := by decide +kernel
theorem dX12_stepOf_2 : decode cX12_stepOf 2 = .ok (.iload_n 1, 1) := by decide +kernel
theorem dX12_stepOf_3 : decode cX12_stepOf 3 = .ok (.iconst (-1), 1) := by decide +kernel
theorem dX12_stepOf_4 : decode cX12_stepOf 4 = .ok (.iconst (-1), 1) := by decide +kernel
theorem dX12_stepOf_5 : decode cX12_stepOf 5 = .ok (.iconst 1, 1) := by decide +kernel
theorem dX12_stepOf_6 : decode cX12_stepOf 6 = .ok (.invokevirtual 358, 3) := by decide +kernel
theorem dX12_stepOf_9 : decode cX12_stepOf 9 = .ok (.ireturn, 1) := by decide +kernel
abbrev mX12_stepOf : zq_M := (cX12_stepOf, RX12, "stepOf", (some .int), 2)
theorem dX12_isBarred_0 : decode cX12_isBarred 0 = .ok (.aload_n 0, 1) := by decide +kernel
theorem dX12_isBarred_1 : decode cX12_isBarred 1 = .ok (.iconst 3, 1) := by decide +kernel
theorem dX12_isBarred_2 : decode cX12_isBarred 2 = .ok (.iload_n 1, 1) := by decide +kernel
theorem dX12_isBarred_3 : decode cX12_isBarred 3 = .ok (.iconst (-1), 1) := by decide +kernel
theorem dX12_isBarred_4 : decode cX12_isBarred 4 = .ok (.iconst (-1), 1) := by decide +kernel
theorem dX12_isBarred_5 : decode cX12_isBarred 5 = .ok (.iconst 0, 1) := by decide +kernel
theorem dX12_isBarred_6 : decode cX12_isBarred 6 = .ok (.invokevirtual 358, 3) := by decide +kernel
theorem dX12_isBarred_9 : decode cX12_isBarred 9 = .ok (.iconst 1, 1) := by decide +kernel
theorem dX12_isBarred_10 : decode cX12_isBarred 10 = .ok (.if_icmp .ne 7, 3) := by decide +kernel
theorem dX12_isBarred_13 : decode cX12_isBarred 13 = .ok (.iconst 1, 1) := by decide +kernel
theorem dX12_isBarred_14 : decode cX12_isBarred 14 = .ok (.goto 4, 3) := by decide +kernel
theorem dX12_isBarred_17 : decode cX12_isBarred 17 = .ok (.iconst 0, 1) := by decide +kernel
theorem dX12_isBarred_18 : decode cX12_isBarred 18 = .ok (.ireturn, 1) := by decide +kernel
abbrev mX12_isBarred : zq_M := (cX12_isBarred, RX12, "isBarred", (some .boolean), 2)
section ZL26
variable {l : Launch} {G : zq_G} {D n m B E : Nat} {σ : zm_S} {ρ : Nat → zq_E} {post : Option Value → Nat → (Nat → zq_E) → Prop} {x w rk cd vl : Nat → Nat} {W : Nat → Nat → Int}
/-- the k-th letter that is asked of, or none -/
def zAk (x : Nat) (kk : Int32) : Prop := kk = -1 ∨ ∃ k, k < zlen x ∧ kk = nI k
theorem zm_setsAsked {p : Nat} {kk yy : Int32} (hD : 3 ≤ D) (hC : zC σ m x w rk) (hpm : p < m) (hk : zAk (x p) kk)
    (hp : ∀ g, g 0 = nI p → g 1 = zplace (σ.2.1 72) (nI p) m → g 2 = nI (zlen (x p)) → g 3 = kk → (g 4 = if kk = -1 then -1 else nI (zlt (x p) kk.toNatClampNeg)) → g 5 = yy → g 6 = σ.2.1 72 72 → g 7 = σ.2.1 72 19 → post none n (zm_h (zsA σ 83 g) ρ)) : zq_Runs l G D 0 0 yX12_setsAsked [.ref 70, .int (nI p), .int kk, .int yy] n (zm_h σ ρ) post := by
  obtain ⟨hm, hm7, hx, -, -⟩ := hC
  obtain ⟨hxp, hv⟩ := hx p hpm
  have hvx := hv.2.1
  have e : ∀ g, (zsA σ 83 g).2.1 72 = σ.2.1 72 := fun g => zsA_o _ (by decide) _
  refine zq_enter (cc := cX12_setsAsked) (nL := 4) (ret := none) cw_X12_setsAsked (by decide) rfl (Nat.le_of_ble_eq_true rfl) ?_
  refine at_aload_n dX12_setsAsked_0 rfl ?_
  refine at_get dX12_setsAsked_1 fl_X12_80 rfl rfl ?_
  refine at_iconst dX12_setsAsked_4 (v := nI 0) (by decide) ?_
  refine at_iload_n dX12_setsAsked_5 rfl ?_
  refine at_mast (a := 83) dX12_setsAsked_6 (by decide) (by decide) (by decide) (by decide) rfl rfl (by show _ < 8; omega) (by decide) ?_
  rw [zsA_m]
  refine at_aload_n dX12_setsAsked_7 rfl ?_
  refine at_get dX12_setsAsked_8 fl_X12_80 rfl rfl ?_
  refine at_iconst dX12_setsAsked_11 (v := nI 1) (by decide) ?_
  refine at_aload_n dX12_setsAsked_12 rfl ?_
  refine at_iload_n dX12_setsAsked_13 rfl ?_
  refine at_callV1 (d := D - 1) dX12_setsAsked_14 mv_X12_155 rfl (Nat.le_of_ble_eq_true rfl) (zq_r0 (by omega) (by omega) (by omega)) ?_
  refine zm_placeOf (m := m) (by omega) (by rw [e]; exact hm) hm7 ?_
  rw [e]
  refine at_mast (a := 83) dX12_setsAsked_17 (by decide) (by decide) (by decide) (by decide) rfl rfl (by show _ < 8; omega) (by decide) ?_
  rw [zsA_a]
  refine at_aload_n dX12_setsAsked_18 rfl ?_
  refine at_get dX12_setsAsked_19 fl_X12_80 rfl rfl ?_
  refine at_iconst dX12_setsAsked_22 (v := nI 2) (by decide) ?_
  refine at_aload_n dX12_setsAsked_23 rfl ?_
  refine at_get dX12_setsAsked_24 fl_X12_42 rfl rfl ?_
  refine at_iconst dX12_setsAsked_27 (v := nI 0) (by decide) ?_
  refine at_iload_n dX12_setsAsked_28 rfl ?_
  refine at_iaddN dX12_setsAsked_29 ?_
  refine at_mald (a := 72) dX12_setsAsked_30 (by decide) (by decide) (by decide) (by decide) rfl rfl (by show _ < 5684; omega) (by decide) ?_
  rw [e, Nat.zero_add p, hxp]
  refine at_callS1 (d := D - 1) dX12_setsAsked_31 ms_X12_22 (Nat.le_of_ble_eq_true rfl) (zq_r0 (by omega) (by omega) (by omega)) ?_
  refine zm_lengthOf (by omega) ?_
  refine at_mast (a := 83) dX12_setsAsked_34 (by decide) (by decide) (by decide) (by decide) rfl rfl (by show _ < 8; omega) (by decide) ?_
  rw [zsA_a]
  refine at_aload_n dX12_setsAsked_35 rfl ?_
  refine at_get dX12_setsAsked_36 fl_X12_80 rfl rfl ?_
  refine at_iconst dX12_setsAsked_39 (v := nI 3) (by decide) ?_
  refine at_iload_n dX12_setsAsked_40 rfl ?_
  refine at_mast (a := 83) dX12_setsAsked_41 (by decide) (by decide) (by decide) (by decide) rfl rfl (by show _ < 8; omega) (by decide) ?_
  rw [zsA_a]
  refine at_aload_n dX12_setsAsked_42 rfl ?_
  refine at_get dX12_setsAsked_43 fl_X12_80 rfl rfl ?_
  refine at_iconst dX12_setsAsked_46 (v := nI 4) (by decide) ?_
  refine at_iload_n dX12_setsAsked_47 rfl ?_
  refine at_iconst dX12_setsAsked_48 (v := -1) rfl ?_
  refine at_icmp_ne (tgt := 56) dX12_setsAsked_49 (by decide) (fun c49 => ?_) (fun c49 => ?_)
  · rcases hk with rfl | ⟨k, hk, rfl⟩
    · exact absurd rfl c49
    rw [if_neg c49, nI_clamp (by have := zlen_le (x p); omega)] at hp
    refine at_aload_n dX12_setsAsked_56 rfl ?_
    refine at_get dX12_setsAsked_57 fl_X12_42 rfl rfl ?_
    refine at_iconst dX12_setsAsked_60 (v := nI 0) (by decide) ?_
    refine at_iload_n dX12_setsAsked_61 rfl ?_
    refine at_iaddN dX12_setsAsked_62 ?_
    refine at_mald (a := 72) dX12_setsAsked_63 (by decide) (by decide) (by decide) (by decide) rfl rfl (by show _ < 5684; omega) (by decide) ?_
    refine at_iload_n dX12_setsAsked_64 rfl ?_
    rw [e, Nat.zero_add p, hxp]
    refine at_callS2 (d := D - 1) dX12_setsAsked_65 ms_X12_28 (Nat.le_of_ble_eq_true rfl) (zq_r0 (by omega) (by omega) (by omega)) ?_
    refine zm_letterAt (by omega) (by omega) hk ?_
    refine at_mast (a := 83) dX12_setsAsked_68 (by decide) (by decide) (by decide) (by decide) rfl rfl (by show _ < 8; omega) (by decide) ?_
    rw [zsA_a]
    refine at_aload_n dX12_setsAsked_69 rfl ?_
    refine at_get dX12_setsAsked_70 fl_X12_80 rfl rfl ?_
    refine at_iconst dX12_setsAsked_73 (v := nI 5) (by decide) ?_
    refine at_iload_n dX12_setsAsked_74 rfl ?_
    refine at_mast (a := 83) dX12_setsAsked_75 (by decide) (by decide) (by decide) (by decide) rfl rfl (by show _ < 8; omega) (by decide) ?_
    rw [zsA_a]
    refine at_aload_n dX12_setsAsked_76 rfl ?_
    refine at_get dX12_setsAsked_77 fl_X12_80 rfl rfl ?_
    refine at_bipush dX12_setsAsked_80 (v := nI 6) (by decide) ?_
    refine at_aload_n dX12_setsAsked_82 rfl ?_
    refine at_get dX12_setsAsked_83 fl_X12_42 rfl rfl ?_
    refine at_bipush dX12_setsAsked_86 (v := nI 72) (by decide) ?_
    refine at_mald (a := 72) dX12_setsAsked_88 (by decide) (by decide) (by decide) (by decide) rfl rfl (by show _ < 5684; omega) (by decide) ?_
    rw [e]
    refine at_mast (a := 83) dX12_setsAsked_89 (by decide) (by decide) (by decide) (by decide) rfl rfl (by show _ < 8; omega) (by decide) ?_
    rw [zsA_a]
    refine at_aload_n dX12_setsAsked_90 rfl ?_
    refine at_get dX12_setsAsked_91 fl_X12_80 rfl rfl ?_
    refine at_bipush dX12_setsAsked_94 (v := nI 7) (by decide) ?_
    refine at_aload_n dX12_setsAsked_96 rfl ?_
    refine at_get dX12_setsAsked_97 fl_X12_42 rfl rfl ?_
    refine at_bipush dX12_setsAsked_100 (v := nI 19) (by decide) ?_
    refine at_mald (a := 72) dX12_setsAsked_102 (by decide) (by decide) (by decide) (by decide) rfl rfl (by show _ < 5684; omega) (by decide) ?_
    rw [e]
    refine at_mast (a := 83) dX12_setsAsked_103 (by decide) (by decide) (by decide) (by decide) rfl rfl (by show _ < 8; omega) (by decide) ?_
    rw [zsA_a]
    refine at_vret dX12_setsAsked_104 rfl (by omega) (by omega) ?_
    exact hp _ rfl rfl rfl rfl rfl rfl rfl rfl
  · subst c49
    rw [if_pos rfl] at hp
    refine at_iconst dX12_setsAsked_52 (v := -1) rfl ?_
    refine at_goto (tgt := 68) dX12_setsAsked_53 (by decide) ?_
    refine at_mast (a := 83) dX12_setsAsked_68 (by decide) (by decide) (by decide) (by decide) rfl rfl (by show _ < 8; omega) (by decide) ?_
    rw [zsA_a]
    refine at_aload_n dX12_setsAsked_69 rfl ?_
    refine at_get dX12_setsAsked_70 fl_X12_80 rfl rfl ?_
    refine at_iconst dX12_setsAsked_73 (v := nI 5) (by decide) ?_
    refine at_iload_n dX12_setsAsked_74 rfl ?_
    refine at_mast (a := 83) dX12_setsAsked_75 (by decide) (by decide) (by decide) (by decide) rfl rfl (by show _ < 8; omega) (by decide) ?_
    rw [zsA_a]
    refine at_aload_n dX12_setsAsked_76 rfl ?_
    refine at_get dX12_setsAsked_77 fl_X12_80 rfl rfl ?_
    refine at_bipush dX12_setsAsked_80 (v := nI 6) (by decide) ?_
    refine at_aload_n dX12_setsAsked_82 rfl ?_
    refine at_get dX12_setsAsked_83 fl_X12_42 rfl rfl ?_
    refine at_bipush dX12_setsAsked_86 (v := nI 72) (by decide) ?_
    refine at_mald (a := 72) dX12_setsAsked_88 (by decide) (by decide) (by decide) (by decide) rfl rfl (by show _ < 5684; omega) (by decide) ?_
    rw [e]
    refine at_mast (a := 83) dX12_setsAsked_89 (by decide) (by decide) (by decide) (by decide) rfl rfl (by show _ < 8; omega) (by decide) ?_
    rw [zsA_a]
    refine at_aload_n dX12_setsAsked_90 rfl ?_
    refine at_get dX12_setsAsked_91 fl_X12_80 rfl rfl ?_
    refine at_bipush dX12_setsAsked_94 (v := nI 7) (by decide) ?_
    refine at_aload_n dX12_setsAsked_96 rfl ?_
    refine at_get dX12_setsAsked_97 fl_X12_42 rfl rfl ?_
    refine at_bipush dX12_setsAsked_100 (v := nI 19) (by decide) ?_
    refine at_mald (a := 72) dX12_setsAsked_102 (by decide) (by decide) (by decide) (by decide) rfl rfl (by show _ < 5684; omega) (by decide) ?_
    rw [e]
    refine at_mast (a := 83) dX12_setsAsked_103 (by decide) (by decide) (by decide) (by decide) rfl rfl (by show _ < 8; omega) (by decide) ?_
    rw [zsA_a]
    refine at_vret dX12_setsAsked_104 rfl (by omega) (by omega) ?_
    exact hp _ rfl rfl rfl rfl rfl rfl rfl rfl
/-- where the reckoning is, the flag as it is -/
def zgr (σ : zm_S) (i : Nat) (v : Int32) : zm_S := zm_si (zm_si σ 23 (nI i)) 25 v
theorem zgr_23 (σ : zm_S) (i : Nat) (v : Int32) : (zgr σ i v).1 23 = nI i := by simp [zgr, zm_si, upd]
theorem zgr_24 (σ : zm_S) (i : Nat) (v : Int32) : (zgr σ i v).1 24 = σ.1 24 := by simp [zgr, zm_si, upd]
theorem zgr_s25 (σ : zm_S) (i : Nat) (v : Int32) (c : Bool) : zm_si (zgr σ i v) 25 (zb c) = zg σ i c := zsi_si _ _ _ _
theorem zTe_gr {σ τ : zm_S} {i : Nat} {v : Int32} (h : zTe σ τ) : zTe (zgr σ i v) τ := zTe_i (by decide) (by decide) (zTe_i (by decide) (by decide) h)
theorem zm_codeAtr {D i j : Nat} {b : Int32} {o : Bool} {post : Option Value → Nat → (Nat → zq_E) → Prop} (hR : zRun σ B E cd vl o) (hi : i ≤ 10000) (hp : post (some (.int (nI (cd i)))) n (zm_h (zgr σ j b) ρ)) : zq_Runs l G D 0 0 yX12_codeAt [.ref 70, .int (nI (B + i))] n (zm_h (zgr σ j b) ρ) post := by
  obtain ⟨h1, -, h3, h4, h5, h6⟩ := hR
  refine zq_enter (cc := cX12_codeAt) (nL := 2) (ret := (some .int)) cw_X12_codeAt (by decide) rfl (Nat.le_of_ble_eq_true rfl) ?_
  refine at_iload_n dX12_codeAt_0 rfl ?_
  refine at_aload_n dX12_codeAt_1 rfl ?_
  refine at_get dX12_codeAt_2 fl_X12_283 rfl rfl ?_
  rw [zgr_24, h1]
  refine at_geN (tgt := 20) dX12_codeAt_5 (by decide) (by omega) (by omega) (fun c5 => ?_) (fun c5 => ?_)
  · rw [h4 i (by omega)] at hp
    refine at_iconst dX12_codeAt_20 (v := nI 0) (by decide) ?_
    refine at_iret dX12_codeAt_21 rfl (by omega) (by omega) ?_
    exact hp
  · have g := (h6 i (by omega)).1
    refine at_aload_n dX12_codeAt_8 rfl ?_
    refine at_get dX12_codeAt_9 fl_X12_42 rfl rfl ?_
    refine at_bipush dX12_codeAt_12 (v := nI 84) (by decide) ?_
    refine at_iload_n dX12_codeAt_14 rfl ?_
    refine at_iaddN dX12_codeAt_15 ?_
    refine at_mald (a := 72) dX12_codeAt_16 (by decide) (by decide) (by decide) (by decide) rfl rfl (by show _ < 5684; omega) (by decide) ?_
    rw [show (zgr σ j b).2 = σ.2 from rfl, g]
    refine at_goto (tgt := 21) dX12_codeAt_17 (by decide) ?_
    refine at_iret dX12_codeAt_21 rfl (by omega) (by omega) ?_
    exact hp
theorem zm_tells_loop {h : Nat} {p kk yy wo : Int32} (hD : 60 ≤ D) (hh : h < 4) (hR : zRun σ B E cd vl false) (hW : zWv l G n σ ρ false W) : ∀ (L : List zLC) (i : Nat) (t : Int) (b : Int32), zSpCs cd vl E L i → i ≤ E + 1 → (0 ≤ t ∧ t ≤ 99) →
    (∀ i b, post (some (.int (zI (zlaw W h t L)))) n (zm_h (zgr σ i b) ρ)) → zq_At l G (zq_rm D 0 0) mX12_tells (zq_QF G post 0 0) 71 [(0, .ref 70), (1, .int (nI h)), (2, .int p), (3, .int kk), (4, .int yy), (5, .int wo), (6, .long (zL t))] [] n (zm_h (zgr σ (B + i) b) ρ) 0 0 := by
  have hE := hR.2.2.1
  have hlt : ∀ k, cd k ≠ 0 → k < E := fun k hk => Nat.lt_of_not_le fun g => hk (hR.2.2.2.1 k g)
  have h24 : ∀ i b, (zgr σ i b).1 24 = nI (B + E) := fun i b => (zgr_24 σ i b).trans hR.1
  have e0 : (0 : Int64) = zL 0 := rfl
  have e99 : (99 : Int64) = zL 99 := rfl
  intro L
  induction L with
  | nil =>
    intro i t b hL hi ht hp
    have hi : i = E + 1 := hL
    have hl2 : (zL t).toInt32 = zI t := by rw [← zL_I (by omega) (by omega)]; exact lg_l2i_i2l _
    have hp := hp (B + i) b
    rw [show zlaw W h t [] = t from rfl] at hp
    refine at_aload_n dX12_tells_71 rfl ?_
    refine at_get dX12_tells_72 fl_X12_286 rfl rfl ?_
    rw [zgr_23]
    refine at_aload_n dX12_tells_75 rfl ?_
    refine at_get dX12_tells_76 fl_X12_283 rfl rfl ?_
    rw [h24]
    refine at_geN (tgt := 224) dX12_tells_79 (by decide) (by omega) (by omega) (fun c79 => ?_) (fun c79 => ?_)
    · refine at_lload dX12_tells_224 rfl ?_
      refine at_l2i dX12_tells_226 ?_
      rw [hl2]
      refine at_iret dX12_tells_227 rfl (by omega) (by omega) ?_
      exact hp
    · omega
  | cons c cs ih =>
    intro i t b hL hi ht hp
    obtain ⟨j, ⟨k, hs, ht2⟩, hL⟩ := hL
    obtain ⟨hd, S, T⟩ := c
    have hci : cd i = hd ∧ hd ≠ 0 ∧ hd < 4 := by rcases hs with ⟨g1, g2, -, -⟩ | ⟨g1, g2, -⟩ <;> (simp only at g2; omega)
    have hiE := hlt i (by omega)
    have hkE : k ≤ E := by
      rcases hs with ⟨g1, -, -, rfl⟩ | ⟨g1, -, g3⟩
      · omega
      · exact (zIn_S hR.2.2.2.1 9 _ _ _ g3).2
    have hjE : j ≤ E := by
      rcases ht2 with ⟨-, -, rfl⟩ | ⟨-, g3⟩
      · exact hkE
      · exact (zIn_T hR.2.2.2.1 9 _ _ _ g3).2
    have hnx := fun t' b' (hb : 0 ≤ t' ∧ t' ≤ 99) (e : zlaw W h t ((hd, S, T) :: cs) = zlaw W h t' cs) => ih (j + 1) t' b' hL (by omega) hb (by rw [← e]; exact hp)
    have hbs : zlaw W h t ((hd, S, T) :: cs) = zlaw W h (ztold1 W h t (hd, S, T)) cs := rfl
    have hb1 := ztold1_b (w := W) (h := h) (c := (hd, S, T)) ht
    have hnx := fun b' => hnx _ b' hb1 hbs
    have hvS : -1000000000 ≤ zvl W true false S ∧ zvl W true false S ≤ 1000000000 := by
      rcases hs with ⟨-, -, g3, -⟩ | ⟨-, -, g3⟩
      · simp only at g3; subst g3; exact zvl_b (fun x hx => by cases hx; omega)
      · exact zvl_b (zBn_S hW.1 9 _ _ _ g3)
    unfold ztold1 at hnx
    simp only at hnx
    have h211 : ∀ t' b', t' = (if hd = h ∧ T W = some 1 then (match S W with | some x => zclamp x | none => t) else t) → zq_At l G (zq_rm D 0 0) mX12_tells (zq_QF G post 0 0) 211 [(0, .ref 70), (1, .int (nI h)), (2, .int p), (3, .int kk), (4, .int yy), (5, .int wo), (6, .long (zL t'))] [] n (zm_h (zg σ (B + j) b') ρ) 0 0 := by
      intro t' b' e
      subst e
      have hnx := hnx (zb b')
      refine at_aload_n dX12_tells_211 rfl ?_
      refine at_dup dX12_tells_212 rfl ?_
      refine at_get dX12_tells_213 fl_X12_286 rfl rfl ?_
      rw [zg_23]
      refine at_iconst dX12_tells_216 (v := nI 1) (by decide) ?_
      refine at_iaddN dX12_tells_217 ?_
      refine at_mput dX12_tells_218 (pl_X12_286 _) (fun _ => ⟨_, rfl⟩) rfl rfl ?_
      rw [zg_s23, Nat.add_assoc B j 1]
      refine at_goto (tgt := 71) dX12_tells_221 (by decide) ?_
      exact hnx
    have h156 : ∀ r, zsay W true false T r → zq_At l G (zq_rm D 0 0) mX12_tells (zq_QF G post 0 0) 156 [(0, .ref 70), (1, .int (nI h)), (2, .int p), (3, .int kk), (4, .int yy), (5, .int wo), (6, .long (zL t)), (8, .int (nI hd)), (9, .long (zL (zvl W true false S))), (11, .int (zb (zbs W true false S)))] [.int (zb r)] n (zm_h (zg σ (B + j) (zbs W true false T)) ρ) 0 0 := by
      intro r hr
      have hr := hr rfl rfl
      have h211a := h211 t (zbs W true false T)
      refine at_istore dX12_tells_156 (by decide) ?_
      refine at_iload dX12_tells_158 rfl ?_
      refine at_iload_n dX12_tells_160 rfl ?_
      refine at_neN (tgt := 211) dX12_tells_161 (by decide) (by omega) (by omega) (fun c161 => ?_) (fun c161 => ?_)
      · have hnx := h211a (by rw [if_neg (fun g => c161 g.1)])
        exact at_lv [0, 1, 2, 3, 4, 5, 6] hnx
      · refine at_iload dX12_tells_164 rfl ?_
        refine at_if_eqB (tgt := 211) dX12_tells_166 (by decide) (fun c166 => ?_) (fun c166 => ?_)
        · have hnx := h211a (by rw [if_neg (fun g => by have := hr 1 g.2; rw [c166] at this; cases this)])
          exact at_lv [0, 1, 2, 3, 4, 5, 6] hnx
        · refine at_aload_n dX12_tells_169 rfl ?_
          refine at_get dX12_tells_170 fl_X12_296 rfl rfl ?_
          rw [zg_25]
          refine at_if_neB (tgt := 211) dX12_tells_173 (by decide) (fun c173 => ?_) (fun c173 => ?_)
          · have hnx := h211a (by rw [if_neg (fun g => by rw [zbs_s g.2] at c173; cases c173)])
            exact at_lv [0, 1, 2, 3, 4, 5, 6] hnx
          · refine at_iload dX12_tells_176 rfl ?_
            refine at_if_neB (tgt := 211) dX12_tells_178 (by decide) (fun c178 => ?_) (fun c178 => ?_)
            · have hnx := h211a (by
                split
                · cases hS : S W with
                  | none => rfl
                  | some x => rw [zbs_s hS] at c178; cases c178
                · rfl)
              exact at_lv [0, 1, 2, 3, 4, 5, 6] hnx
            · obtain ⟨x, hS⟩ : ∃ x, S W = some x := by
                cases hS : S W with
                | none => rw [zbs_n hS] at c178; cases c178
                | some x => exact ⟨x, rfl⟩
              obtain ⟨y, hT⟩ : ∃ y, T W = some y := by
                cases hT : T W with
                | none => rw [zbs_n hT] at c173; cases c173
                | some x => exact ⟨x, rfl⟩
              have hy := hr y hT
              rw [c166] at hy
              have hy := of_decide_eq_true hy.symm
              subst hy
              rw [zvl_s hS] at hvS ⊢
              have h211b := h211 (zclamp x) (zbs W true false T) (by rw [if_pos ⟨c161, hT⟩, hS])
              unfold zclamp at h211b
              refine at_lload dX12_tells_181 rfl ?_
              refine at_lconst dX12_tells_183 (v := 0) rfl ?_
              refine at_lcmp dX12_tells_184 ?_
              refine at_if_ge (tgt := 192) dX12_tells_185 (by decide) (fun c185 => ?_) (fun c185 => ?_)
              · rw [lg_cmp_ge, e0, zL_le (by omega) (by omega)] at c185
                refine at_lload dX12_tells_192 rfl ?_
                refine at_ldc2 dX12_tells_194 kl_X12_356 ?_
                refine at_lcmp dX12_tells_197 ?_
                refine at_if_le (tgt := 207) dX12_tells_198 (by decide) (fun c198 => ?_) (fun c198 => ?_)
                · rw [lg_cmp_le, e99, zL_le (by omega) (by omega)] at c198
                  rw [if_neg (by omega), if_neg (by omega)] at h211b
                  have hnx := h211b
                  refine at_lload dX12_tells_207 rfl ?_
                  refine at_lstore dX12_tells_209 (by decide) ?_
                  exact at_lv [0, 1, 2, 3, 4, 5, 6] hnx
                · rw [lg_cmp_le, e99, zL_le (by omega) (by omega)] at c198
                  rw [if_neg (by omega), if_pos (by omega)] at h211b
                  have hnx := h211b
                  refine at_ldc2 dX12_tells_201 kl_X12_356 ?_
                  refine at_goto (tgt := 209) dX12_tells_204 (by decide) ?_
                  refine at_lstore dX12_tells_209 (by decide) ?_
                  exact at_lv [0, 1, 2, 3, 4, 5, 6] hnx
              · rw [lg_cmp_ge, e0, zL_le (by omega) (by omega)] at c185
                rw [if_pos (by omega)] at h211b
                have hnx := h211b
                refine at_lconst dX12_tells_188 (v := 0) rfl ?_
                refine at_goto (tgt := 209) dX12_tells_189 (by decide) ?_
                refine at_lstore dX12_tells_209 (by decide) ?_
                exact at_lv [0, 1, 2, 3, 4, 5, 6] hnx
    have h122 : zq_At l G (zq_rm D 0 0) mX12_tells (zq_QF G post 0 0) 122 [(0, .ref 70), (1, .int (nI h)), (2, .int p), (3, .int kk), (4, .int yy), (5, .int wo), (6, .long (zL t)), (8, .int (nI hd))] [.long (zL (zvl W true false S))] n (zm_h (zg σ (B + k) (zbs W true false S)) ρ) 0 0 := by
      rcases ht2 with ⟨g1, g2, rfl⟩ | ⟨g1, g2⟩
      · simp only at g2
        subst g2
        have h156 := h156 true (fun _ _ x hx => by cases hx; rfl)
        rw [zbs_s (show zx_num 1 W = some 1 from rfl)] at h156
        refine at_lstore dX12_tells_122 (by decide) ?_
        refine at_aload_n dX12_tells_124 rfl ?_
        refine at_get dX12_tells_125 fl_X12_296 rfl rfl ?_
        rw [zg_25]
        refine at_istore dX12_tells_128 (by decide) ?_
        refine at_aload_n dX12_tells_130 rfl ?_
        refine at_iconst dX12_tells_131 (v := nI 0) (by decide) ?_
        refine at_mput dX12_tells_132 (pl_X12_296 _) (fun _ => ⟨_, rfl⟩) rfl rfl ?_
        rw [← zb_0, zg_s25]
        refine at_aload_n dX12_tells_135 rfl ?_
        refine at_iconst dX12_tells_136 (v := nI 4) (by decide) ?_
        refine at_callV1 (d := D - 1) dX12_tells_137 mv_X12_310 rfl (Nat.le_of_ble_eq_true rfl) (zq_r0 (by omega) (by omega) (by omega)) ?_
        refine zm_passes0 (by omega) hR (by omega) (by decide) ?_
        rw [if_neg g1, decide_eq_false g1]
        refine at_if_eqB (tgt := 151) dX12_tells_140 (by decide) (fun c140 => ?_) (fun c140 => ?_)
        · refine at_iconst dX12_tells_151 (v := nI 1) (by decide) ?_
          refine at_goto (tgt := 156) dX12_tells_152 (by decide) ?_
          exact h156
        · cases c140
      · refine at_lstore dX12_tells_122 (by decide) ?_
        refine at_aload_n dX12_tells_124 rfl ?_
        refine at_get dX12_tells_125 fl_X12_296 rfl rfl ?_
        rw [zg_25]
        refine at_istore dX12_tells_128 (by decide) ?_
        refine at_aload_n dX12_tells_130 rfl ?_
        refine at_iconst dX12_tells_131 (v := nI 0) (by decide) ?_
        refine at_mput dX12_tells_132 (pl_X12_296 _) (fun _ => ⟨_, rfl⟩) rfl rfl ?_
        rw [← zb_0, zg_s25]
        refine at_aload_n dX12_tells_135 rfl ?_
        refine at_iconst dX12_tells_136 (v := nI 4) (by decide) ?_
        refine at_callV1 (d := D - 1) dX12_tells_137 mv_X12_310 rfl (Nat.le_of_ble_eq_true rfl) (zq_r0 (by omega) (by omega) (by omega)) ?_
        refine zm_passes0 (by omega) hR (by omega) (by decide) ?_
        rw [if_pos g1, decide_eq_true g1]
        refine at_if_eqB (tgt := 151) dX12_tells_140 (by decide) (fun c140 => ?_) (fun c140 => ?_)
        · cases c140
        · refine at_aload_n dX12_tells_143 rfl ?_
          refine at_iconst dX12_tells_144 (v := nI 1) (by decide) ?_
          rw [← zb_1]
          refine at_callV1 (d := D - 1) dX12_tells_145 mv_X12_349 rfl (Nat.le_of_ble_eq_true rfl) (zq_r0 (by omega) (by omega) (by omega)) ?_
          refine zm_testT hR hW 9 _ (by omega) T (k + 1) j true false _ g2 (fun r hr => ?_)
          have h156 := h156 r hr
          refine at_if_eqB (tgt := 155) dX12_tells_148 (by decide) (fun c148 => ?_) (fun c148 => ?_)
          · rw [c148] at h156
            refine at_iconst dX12_tells_155 (v := nI 0) (by decide) ?_
            exact h156
          · rw [c148] at h156
            refine at_iconst dX12_tells_151 (v := nI 1) (by decide) ?_
            refine at_goto (tgt := 156) dX12_tells_152 (by decide) ?_
            exact h156
    rcases hs with ⟨g1, g2, g3, rfl⟩ | ⟨g1, g2, g3⟩
    · simp only at g2 g3
      subst g2; subst g3
      rw [zbs_s (show zx_num 1 W = some 1 from rfl), zvl_s (show zx_num 1 W = some 1 from rfl)] at h122
      refine at_aload_n dX12_tells_71 rfl ?_
      refine at_get dX12_tells_72 fl_X12_286 rfl rfl ?_
      rw [zgr_23]
      refine at_aload_n dX12_tells_75 rfl ?_
      refine at_get dX12_tells_76 fl_X12_283 rfl rfl ?_
      rw [h24]
      refine at_geN (tgt := 224) dX12_tells_79 (by decide) (by omega) (by omega) (fun c79 => ?_) (fun c79 => ?_)
      · omega
      · refine at_aload_n dX12_tells_82 rfl ?_
        refine at_aload_n dX12_tells_83 rfl ?_
        refine at_get dX12_tells_84 fl_X12_286 rfl rfl ?_
        rw [zgr_23]
        refine at_callV1 (d := D - 1) dX12_tells_87 mv_X12_289 rfl (Nat.le_of_ble_eq_true rfl) (zq_r0 (by omega) (by omega) (by omega)) ?_
        refine zm_codeAtr hR (by omega) ?_
        rw [g1]
        refine at_istore dX12_tells_90 (by decide) ?_
        refine at_aload_n dX12_tells_92 rfl ?_
        refine at_iconst dX12_tells_93 (v := nI 0) (by decide) ?_
        refine at_mput dX12_tells_94 (pl_X12_296 _) (fun _ => ⟨_, rfl⟩) rfl rfl ?_
        rw [← zb_0, zgr_s25]
        refine at_aload_n dX12_tells_97 rfl ?_
        refine at_dup dX12_tells_98 rfl ?_
        refine at_get dX12_tells_99 fl_X12_286 rfl rfl ?_
        rw [zg_23]
        refine at_iconst dX12_tells_102 (v := nI 1) (by decide) ?_
        refine at_iaddN dX12_tells_103 ?_
        refine at_mput dX12_tells_104 (pl_X12_286 _) (fun _ => ⟨_, rfl⟩) rfl rfl ?_
        rw [zg_s23, Nat.add_assoc B i 1]
        refine at_iload dX12_tells_107 rfl ?_
        refine at_iconst dX12_tells_109 (v := nI 3) (by decide) ?_
        refine at_neN (tgt := 117) dX12_tells_110 (by decide) (by omega) (by omega) (fun c110 => ?_) (fun c110 => ?_)
        · omega
        · refine at_lconst dX12_tells_113 (v := 1) rfl ?_
          refine at_goto (tgt := 122) dX12_tells_114 (by decide) ?_
          exact h122
    · simp only at g2 g3
      subst g2
      refine at_aload_n dX12_tells_71 rfl ?_
      refine at_get dX12_tells_72 fl_X12_286 rfl rfl ?_
      rw [zgr_23]
      refine at_aload_n dX12_tells_75 rfl ?_
      refine at_get dX12_tells_76 fl_X12_283 rfl rfl ?_
      rw [h24]
      refine at_geN (tgt := 224) dX12_tells_79 (by decide) (by omega) (by omega) (fun c79 => ?_) (fun c79 => ?_)
      · omega
      · refine at_aload_n dX12_tells_82 rfl ?_
        refine at_aload_n dX12_tells_83 rfl ?_
        refine at_get dX12_tells_84 fl_X12_286 rfl rfl ?_
        rw [zgr_23]
        refine at_callV1 (d := D - 1) dX12_tells_87 mv_X12_289 rfl (Nat.le_of_ble_eq_true rfl) (zq_r0 (by omega) (by omega) (by omega)) ?_
        refine zm_codeAtr hR (by omega) ?_
        refine at_istore dX12_tells_90 (by decide) ?_
        refine at_aload_n dX12_tells_92 rfl ?_
        refine at_iconst dX12_tells_93 (v := nI 0) (by decide) ?_
        refine at_mput dX12_tells_94 (pl_X12_296 _) (fun _ => ⟨_, rfl⟩) rfl rfl ?_
        rw [← zb_0, zgr_s25]
        refine at_aload_n dX12_tells_97 rfl ?_
        refine at_dup dX12_tells_98 rfl ?_
        refine at_get dX12_tells_99 fl_X12_286 rfl rfl ?_
        rw [zg_23]
        refine at_iconst dX12_tells_102 (v := nI 1) (by decide) ?_
        refine at_iaddN dX12_tells_103 ?_
        refine at_mput dX12_tells_104 (pl_X12_286 _) (fun _ => ⟨_, rfl⟩) rfl rfl ?_
        rw [zg_s23, Nat.add_assoc B i 1]
        refine at_iload dX12_tells_107 rfl ?_
        refine at_iconst dX12_tells_109 (v := nI 3) (by decide) ?_
        refine at_neN (tgt := 117) dX12_tells_110 (by decide) (by omega) (by omega) (fun c110 => ?_) (fun c110 => ?_)
        · refine at_aload_n dX12_tells_117 rfl ?_
          refine at_iconst dX12_tells_118 (v := nI 1) (by decide) ?_
          rw [← zb_1]
          refine at_callV1 (d := D - 1) dX12_tells_119 mv_X12_313 rfl (Nat.le_of_ble_eq_true rfl) (zq_r0 (by omega) (by omega) (by omega)) ?_
          refine zm_sumS hR hW 9 _ (by omega) S (i + 1) k true false _ g3 ?_
          exact h122
        · omega
theorem zEs_gr {σ τ : zm_S} {i : Nat} {v : Int32} (h : zEs σ τ) : zEs (zgr σ i v) τ := zEs_i rfl (zEs_i rfl h)
/-- what a law's words come to, by the row that is asked -/
def zlwE (g : Nat → Int32) : Nat → Nat → Int := fun c _ => if 8 ≤ c ∧ c ≤ 15 then (g (c - 8)).toInt else 0
/-- the row that is asked of p, of letter kk, to become yy -/
def zAskG (K : Nat → Int32) (m p x : Nat) (kk yy : Int32) : Nat → Int32 := fun j => match j with
  | 0 => nI p
  | 1 => zplace K (nI p) m
  | 2 => nI (zlen x)
  | 3 => kk
  | 4 => if kk = -1 then -1 else nI (zlt x kk.toNatClampNeg)
  | 5 => yy
  | 6 => K 72
  | _ => K 19
def zlwV (K : Nat → Int32) (m p x : Nat) (kk yy : Int32) : Nat → Nat → Int := zlwE (zAskG K m p x kk yy)
/-- small numbers -/
def zSm (v : Int32) : Prop := -1000000000 ≤ v.toInt ∧ v.toInt ≤ 1000000000
theorem zSm_n {j : Nat} (h : j ≤ 1000000000) : zSm (nI j) := by
  unfold zSm
  rw [nI_toInt (by omega)]
  omega
theorem zplace_sm (K : Nat → Int32) (p : Int32) : ∀ k, k ≤ 7 → zSm (zplace K p k)
  | 0, _ => show zSm (-1) from ⟨by decide, by decide⟩
  | k + 1, h => by
    unfold zplace
    split
    · exact zSm_n (by omega)
    · exact zplace_sm K p k (by omega)
theorem zlwV_b {K : Nat → Int32} {m p x : Nat} {kk yy : Int32} (hm : m ≤ 7) (hp : p < 7) (hk : zAk x kk) (hy : zSm yy) (h72 : zSm (K 72)) (h19 : zSm (K 19)) (c k : Nat) : -1000000000 ≤ zlwV K m p x kk yy c k ∧ zlwV K m p x kk yy c k ≤ 1000000000 := by
  have hl := zlen_le x
  have hkk : zSm kk := by
    rcases hk with rfl | ⟨k, h, rfl⟩
    · exact ⟨by decide, by decide⟩
    · exact zSm_n (by omega)
  unfold zlwV zlwE
  split
  · show zSm _
    unfold zAskG
    split
    · exact zSm_n (by omega)
    · exact zplace_sm _ _ _ hm
    · exact zSm_n (by omega)
    · exact hkk
    · split
      · exact ⟨by decide, by decide⟩
      · have := zlt_lt x kk.toNatClampNeg
        exact zSm_n (by omega)
    · exact hy
    · exact h72
    · exact h19
  · decide
theorem zm_tells {h p wo : Nat} {kk yy : Int32} {Lo : Option (List zLC)} (hD : 70 ≤ D) (hC : zC σ m x w rk) (hh : h < 4) (hwo : wo ≤ 99) (hpm : p < m) (hk : zAk (x p) kk) (hy : zSm yy) (h72 : zSm (σ.2.1 72 72)) (h19 : zSm (σ.2.1 72 19)) (hF : zForce (σ.2.1 72) Lo)
    (hp : ∀ τ, zTe τ σ → post (some (.int (zI (ztell (zlwV (σ.2.1 72) m p (x p) kk yy) h wo Lo)))) n (zm_h τ ρ)) : zq_Runs l G D 0 0 yX12_tells [.ref 70, .int (nI h), .int (nI p), .int kk, .int yy, .int (nI wo)] n (zm_h σ ρ) post := by
  have hm7 := hC.2.1
  have e72 : ∀ g, (zsA σ 83 g).2.1 72 = σ.2.1 72 := fun g => zsA_o _ (by decide) _
  refine zq_enter (cc := cX12_tells) (nL := 13) (ret := (some .int)) cw_X12_tells (by decide) rfl (Nat.le_of_ble_eq_true rfl) ?_
  rcases hF with ⟨hF, rfl⟩ | ⟨u, L, hu, hF, ⟨E, cd, vl, hE, hS, hz, hc, hcv, hL⟩, rfl⟩
  · have hp := hp σ (zTe_r _)
    rw [show ztell (zlwV (σ.2.1 72) m p (x p) kk yy) h wo none = (wo : Int) from rfl, zI_n] at hp
    refine at_aload_n dX12_tells_0 rfl ?_
    refine at_get dX12_tells_1 fl_X12_42 rfl rfl ?_
    refine at_bipush dX12_tells_4 (v := nI 76) (by decide) ?_
    refine at_mald (a := 72) dX12_tells_6 (by decide) (by decide) (by decide) (by decide) rfl rfl (by show _ < 5684; omega) (by decide) ?_
    refine at_iconst dX12_tells_7 (v := -1) rfl ?_
    rw [hF]
    refine at_icmp_ne (tgt := 14) dX12_tells_8 (by decide) (fun c8 => ?_) (fun c8 => ?_)
    · exact absurd rfl c8
    · refine at_iload dX12_tells_11 rfl ?_
      refine at_iret dX12_tells_13 rfl (by omega) (by omega) ?_
      exact hp
  · refine at_aload_n dX12_tells_0 rfl ?_
    refine at_get dX12_tells_1 fl_X12_42 rfl rfl ?_
    refine at_bipush dX12_tells_4 (v := nI 76) (by decide) ?_
    refine at_mald (a := 72) dX12_tells_6 (by decide) (by decide) (by decide) (by decide) rfl rfl (by show _ < 5684; omega) (by decide) ?_
    refine at_iconst dX12_tells_7 (v := -1) rfl ?_
    rw [hF]
    refine at_icmp_ne (tgt := 14) dX12_tells_8 (by decide) (fun c8 => ?_) (fun c8 => ?_)
    · refine at_aload_n dX12_tells_14 rfl ?_
      refine at_iload_n dX12_tells_15 rfl ?_
      refine at_iload_n dX12_tells_16 rfl ?_
      refine at_iload dX12_tells_17 rfl ?_
      refine at_callV3 (d := D - 1) dX12_tells_19 mv_X12_352 rfl (Nat.le_of_ble_eq_true rfl) (zq_r0 (by omega) (by omega) (by omega)) ?_
      refine zm_setsAsked (by omega) hC hpm hk (fun g g0 g1 g2 g3 g4 g5 g6 g7 => ?_)
      have hW : zWv l G n (zm_si (zm_si (zsA σ 83 g) 26 (nI 0)) 24 (nI (400 * u + E))) ρ false (zlwV (σ.2.1 72) m p (x p) kk yy) := by
        refine ⟨zlwV_b hm7 (by omega) hk hy h72 h19, fun _ c c1 c2 => ?_, fun h => by cases h⟩
        show (zsA σ 83 g).2.1 83 (c - 8) = _
        rw [zsA_s]
        unfold zlwV zlwE
        rw [if_pos ⟨c1, c2⟩, zI_of]
        rcases (show c = 8 ∨ c = 9 ∨ c = 10 ∨ c = 11 ∨ c = 12 ∨ c = 13 ∨ c = 14 ∨ c = 15 by omega) with rfl | rfl | rfl | rfl | rfl | rfl | rfl | rfl <;> assumption
      have hR : zRun (zm_si (zm_si (zsA σ 83 g) 26 (nI 0)) 24 (nI (400 * u + E))) (400 * u) E cd vl false := ⟨rfl, rfl, by omega, hz, hc, fun k hk => by rw [show (zm_si (zm_si (zsA σ 83 g) 26 (nI 0)) 24 (nI (400 * u + E))).2.1 72 = σ.2.1 72 from e72 g]; exact hcv k hk⟩
      have hloop := fun b => zm_tells_loop (l := l) (G := G) (D := D) (n := n) (ρ := ρ) (post := post) (h := h) (p := nI p) (kk := kk) (yy := yy) (wo := nI wo) (by omega) hh hR hW L 0 wo b hL (by omega) (by omega) (fun i v => hp _ (zTe_gr (zTe_i (by decide) (by decide) (zTe_i (by decide) (by decide) (zTe_a (zTe_r _))))))
      have he : ∀ v, zgr (zm_si (zm_si (zsA σ 83 g) 26 (nI 0)) 24 (nI (400 * u + E))) (400 * u + 0) ((zsA σ 83 g).1 25) = v → v = zm_si (zm_si (zm_si (zsA σ 83 g) 26 (nI 0)) 23 (nI (400 * u))) 24 (nI (400 * u + E)) := by
        rintro v rfl
        show (_, _) = (_, _)
        congr 1
        funext j
        by_cases k1 : j = 25
        · subst k1; simp [zgr, zm_si, upd]
        · by_cases k2 : j = 23
          · subst k2; simp [zgr, zm_si, upd]
          · by_cases k3 : j = 24
            · subst k3; simp [zgr, zm_si, upd]
            · simp [zgr, zm_si, upd, k1, k2, k3]
      have hloop := hloop ((zsA σ 83 g).1 25)
      rw [he _ rfl] at hloop
      clear he
      refine at_aload_n dX12_tells_22 rfl ?_
      refine at_iconst dX12_tells_23 (v := nI 0) (by decide) ?_
      refine at_mput dX12_tells_24 (pl_X12_316 _) (fun _ => ⟨_, rfl⟩) rfl rfl ?_
      refine at_iload dX12_tells_27 rfl ?_
      refine at_i2l dX12_tells_29 ?_
      rw [zL_n (by omega)]
      refine at_lstore dX12_tells_30 (by decide) ?_
      refine at_aload_n dX12_tells_32 rfl ?_
      refine at_sipush dX12_tells_33 (v := nI 400) (by decide) ?_
      refine at_aload_n dX12_tells_36 rfl ?_
      refine at_get dX12_tells_37 fl_X12_42 rfl rfl ?_
      refine at_bipush dX12_tells_40 (v := nI 76) (by decide) ?_
      refine at_mald (a := 72) dX12_tells_42 (by decide) (by decide) (by decide) (by decide) rfl rfl (by show _ < 5684; omega) (by decide) ?_
      rw [show (zm_si (zsA σ 83 g) 26 (nI 0)).2.1 72 = σ.2.1 72 from e72 g, hF]
      refine at_imulN dX12_tells_43 ?_
      refine at_mput dX12_tells_44 (pl_X12_286 _) (fun _ => ⟨_, rfl⟩) rfl rfl ?_
      refine at_aload_n dX12_tells_47 rfl ?_
      refine at_aload_n dX12_tells_48 rfl ?_
      skip
      refine at_get dX12_tells_49 fl_X12_286 rfl rfl ?_
      refine at_aload_n dX12_tells_52 rfl ?_
      refine at_get dX12_tells_53 fl_X12_42 rfl rfl ?_
      refine at_bipush dX12_tells_56 (v := nI 77) (by decide) ?_
      refine at_aload_n dX12_tells_58 rfl ?_
      refine at_get dX12_tells_59 fl_X12_42 rfl rfl ?_
      refine at_bipush dX12_tells_62 (v := nI 76) (by decide) ?_
      refine at_mald (a := 72) dX12_tells_64 (by decide) (by decide) (by decide) (by decide) rfl rfl (by show _ < 5684; omega) (by decide) ?_
      rw [show (zm_si (zm_si (zsA σ 83 g) 26 (nI 0)) 23 (nI (400 * u))).2.1 72 = σ.2.1 72 from e72 g, hF]
      refine at_iaddN dX12_tells_65 ?_
      refine at_mald (a := 72) dX12_tells_66 (by decide) (by decide) (by decide) (by decide) rfl rfl (by show _ < 5684; omega) (by decide) ?_
      rw [show (zm_si (zm_si (zsA σ 83 g) 26 (nI 0)) 23 (nI (400 * u))).2.1 72 = σ.2.1 72 from e72 g, hS, show (zm_si (zm_si (zsA σ 83 g) 26 (nI 0)) 23 (nI (400 * u))).1 23 = nI (400 * u) from rfl]
      refine at_iaddN dX12_tells_67 ?_
      refine at_mput dX12_tells_68 (pl_X12_283 _) (fun _ => ⟨_, rfl⟩) rfl rfl ?_
      exact hloop
    · exact absurd c8 (by intro h; have := congrArg Int32.toInt h; rw [nI_toInt (by omega)] at this; have e : (-1 : Int32).toInt = -1 := rfl; omega)
theorem zm_strokeOf {p : Nat} {kk yy : Int32} {Lo : Option (List zLC)} (hD : 71 ≤ D) (hC : zC σ m x w rk) (hpm : p < m) (hk : zAk (x p) kk) (hy : zSm yy) (h72 : zSm (σ.2.1 72 72)) (h19 : zSm (σ.2.1 72 19)) (hF : zForce (σ.2.1 72) Lo)
    (hp : ∀ τ, zTe τ σ → post (some (.int (zI (ztell (zlwV (σ.2.1 72) m p (x p) kk yy) 1 1 Lo)))) n (zm_h τ ρ)) : zq_Runs l G D 0 0 yX12_strokeOf [.ref 70, .int (nI p), .int kk, .int yy] n (zm_h σ ρ) post := by
  refine zq_enter (cc := cX12_strokeOf) (nL := 4) (ret := (some .int)) cw_X12_strokeOf (by decide) rfl (Nat.le_of_ble_eq_true rfl) ?_
  refine at_aload_n dX12_strokeOf_0 rfl ?_
  refine at_iconst dX12_strokeOf_1 (v := nI 1) (by decide) ?_
  refine at_iload_n dX12_strokeOf_2 rfl ?_
  refine at_iload_n dX12_strokeOf_3 rfl ?_
  refine at_iload_n dX12_strokeOf_4 rfl ?_
  refine at_iconst dX12_strokeOf_5 (v := nI 1) (by decide) ?_
  refine at_callV5 (d := D - 1) dX12_strokeOf_6 mv_X12_358 rfl (Nat.le_of_ble_eq_true rfl) (zq_r0 (by omega) (by omega) (by omega)) ?_
  refine zm_tells (by omega) hC (by decide) (by decide) hpm hk hy h72 h19 hF (fun τ hτ => ?_)
  have hp := hp τ hτ
  refine at_iret dX12_strokeOf_9 rfl (by omega) (by omega) ?_
  exact hp
theorem zm_stepOf {p : Nat} {Lo : Option (List zLC)} (hD : 71 ≤ D) (hC : zC σ m x w rk) (hpm : p < m) (h72 : zSm (σ.2.1 72 72)) (h19 : zSm (σ.2.1 72 19)) (hF : zForce (σ.2.1 72) Lo)
    (hp : ∀ τ, zTe τ σ → post (some (.int (zI (ztell (zlwV (σ.2.1 72) m p (x p) (-1) (-1)) 2 1 Lo)))) n (zm_h τ ρ)) : zq_Runs l G D 0 0 yX12_stepOf [.ref 70, .int (nI p)] n (zm_h σ ρ) post := by
  refine zq_enter (cc := cX12_stepOf) (nL := 2) (ret := (some .int)) cw_X12_stepOf (by decide) rfl (Nat.le_of_ble_eq_true rfl) ?_
  refine at_aload_n dX12_stepOf_0 rfl ?_
  refine at_iconst dX12_stepOf_1 (v := nI 2) (by decide) ?_
  refine at_iload_n dX12_stepOf_2 rfl ?_
  refine at_iconst dX12_stepOf_3 (v := -1) rfl ?_
  refine at_iconst dX12_stepOf_4 (v := -1) rfl ?_
  refine at_iconst dX12_stepOf_5 (v := nI 1) (by decide) ?_
  refine at_callV5 (d := D - 1) dX12_stepOf_6 mv_X12_358 rfl (Nat.le_of_ble_eq_true rfl) (zq_r0 (by omega) (by omega) (by omega)) ?_
  refine zm_tells (by omega) hC (by decide) (by decide) hpm (Or.inl rfl) ⟨by decide, by decide⟩ h72 h19 hF (fun τ hτ => ?_)
  have hp := hp τ hτ
  refine at_iret dX12_stepOf_9 rfl (by omega) (by omega) ?_
  exact hp
/-- whether p may not be changed -/
def zbar (K : Nat → Int32) (m p x : Nat) (Lo : Option (List zLC)) : Bool := decide (ztell (zlwV K m p x (-1) (-1)) 3 0 Lo = 1)
theorem ztell_b {W : Nat → Nat → Int} {h : Nat} {t : Int} (Lo : Option (List zLC)) (ht : 0 ≤ t ∧ t ≤ 99) : 0 ≤ ztell W h t Lo ∧ ztell W h t Lo ≤ 99 := by
  cases Lo with
  | none => exact ht
  | some L => exact zlaw_b L ht
theorem zm_isBarred {p : Nat} {Lo : Option (List zLC)} (hD : 71 ≤ D) (hC : zC σ m x w rk) (hpm : p < m) (h72 : zSm (σ.2.1 72 72)) (h19 : zSm (σ.2.1 72 19)) (hF : zForce (σ.2.1 72) Lo)
    (hp : ∀ τ, zTe τ σ → post (some (.int (zb (zbar (σ.2.1 72) m p (x p) Lo)))) n (zm_h τ ρ)) : zq_Runs l G D 0 0 yX12_isBarred [.ref 70, .int (nI p)] n (zm_h σ ρ) post := by
  have hb := ztell_b (W := zlwV (σ.2.1 72) m p (x p) (-1) (-1)) (h := 3) (t := 0) Lo (by decide)
  unfold zbar at hp
  refine zq_enter (cc := cX12_isBarred) (nL := 2) (ret := (some .boolean)) cw_X12_isBarred (by decide) rfl (Nat.le_of_ble_eq_true rfl) ?_
  refine at_aload_n dX12_isBarred_0 rfl ?_
  refine at_iconst dX12_isBarred_1 (v := nI 3) (by decide) ?_
  refine at_iload_n dX12_isBarred_2 rfl ?_
  refine at_iconst dX12_isBarred_3 (v := -1) rfl ?_
  refine at_iconst dX12_isBarred_4 (v := -1) rfl ?_
  refine at_iconst dX12_isBarred_5 (v := nI 0) (by decide) ?_
  refine at_callV5 (d := D - 1) dX12_isBarred_6 mv_X12_358 rfl (Nat.le_of_ble_eq_true rfl) (zq_r0 (by omega) (by omega) (by omega)) ?_
  refine zm_tells (wo := 0) (by omega) hC (by decide) (by decide) hpm (Or.inl rfl) ⟨by decide, by decide⟩ h72 h19 hF (fun τ hτ => ?_)
  have hp := hp τ hτ
  rw [show ((0 : Nat) : Int) = 0 from rfl]
  generalize ztell (zlwV (σ.2.1 72) m p (x p) (-1) (-1)) 3 0 Lo = T at *
  obtain ⟨t, rfl⟩ : ∃ t : Nat, T = t := ⟨T.toNat, by omega⟩
  rw [zI_n]
  refine at_iconst dX12_isBarred_9 (v := nI 1) (by decide) ?_
  refine at_neN (tgt := 17) dX12_isBarred_10 (by decide) (by omega) (by omega) (fun c10 => ?_) (fun c10 => ?_)
  · rw [decide_eq_false (by omega)] at hp
    refine at_iconst dX12_isBarred_17 (v := nI 0) (by decide) ?_
    refine at_zret dX12_isBarred_18 rfl (by omega) (by omega) (by first | exact Or.inl rfl | exact Or.inr rfl | assumption) ?_
    exact hp
  · rw [decide_eq_true (by omega)] at hp
    refine at_iconst dX12_isBarred_13 (v := nI 1) (by decide) ?_
    refine at_goto (tgt := 18) dX12_isBarred_14 (by decide) ?_
    refine at_zret dX12_isBarred_18 rfl (by omega) (by omega) (by first | exact Or.inl rfl | exact Or.inr rfl | assumption) ?_
    exact hp
end ZL26

