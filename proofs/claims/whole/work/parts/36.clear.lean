/-! ===== the Model: the clearest row ===== -/
def zcn (c : Nat → Nat) : Nat → Nat
  | 0 => 0
  | k + 1 => zcn c k + (if c k = k + 1 then 1 else 0)
theorem zcn_le (c : Nat → Nat) : ∀ k, zcn c k ≤ k
  | 0 => Nat.le_refl _
  | k + 1 => by
    have := zcn_le c k
    unfold zcn
    split <;> omega
/-- the best so far: as many as that and one (0: none yet), its row -/
abbrev zCA : Type := Nat × (Nat → Nat)
def zun (r : Nat → Nat) (k p : Nat) : Nat → Nat := fun j => if j = k then p else r j
def zclI (R : Nat → zCA → zCA) (u : Nat) : Nat → Nat → zCA → zCA
  | 0, _, A => A
  | f + 1, p, A => zclI R u f (p + 1) (if u / 2 ^ p % 2 = 1 then A else R p A)
def zclF (sd : Nat → Nat → Nat) (m : Nat) : Nat → Nat → Nat → (Nat → Nat) → (Nat → Nat) → zCA → zCA
  | 0, _, _, c, r, A => if zcn c 5 + 1 ≤ A.1 then A else (zcn c 5 + 1, r)
  | f + 1, k, u, c, r, A => zclI (fun p A => zclF sd m f (k + 1) (u ||| 2 ^ p) (fun i => sd p (c i)) (zun r k p) A) u m 0 A
theorem zlast_lt {b c : Nat} (hb : b < 1000) (hc : c < 1000) : zlast b < nI c ↔ b < c + 1 := by
  cases b with
  | zero =>
    show (-1 : Int32) < nI c ↔ 0 < c + 1
    rw [Int32.lt_iff_toInt_lt, nI_toInt (by omega)]
    have : (-1 : Int32).toInt = -1 := rfl
    omega
  | succ b =>
    show nI b < nI c ↔ b + 1 < c + 1
    rw [zn_lt (by omega) (by omega)]; omega
/-- what the search leaves -/
def zTo (k : Nat) (τ σ : zm_S) : Prop := (∀ i, i ≠ 40 → τ.1 i = σ.1 i) ∧ (∀ a, a ≠ 90 → a ≠ 91 → a ≠ 92 → τ.2.1 a = σ.2.1 a) ∧ τ.2.2 = σ.2.2 ∧ (∀ j, j < 5 * (k + 1) → τ.2.1 90 j = σ.2.1 90 j) ∧ ∀ j, j < k → τ.2.1 91 j = σ.2.1 91 j
theorem zTo_r (k : Nat) (σ : zm_S) : zTo k σ σ := ⟨fun _ _ => rfl, fun _ _ _ _ => rfl, rfl, fun _ _ => rfl, fun _ _ => rfl⟩
theorem zTo_t {k : Nat} {σ τ υ : zm_S} (h : zTo k σ τ) (g : zTo k τ υ) : zTo k σ υ :=
  ⟨fun i hi => (h.1 i hi).trans (g.1 i hi), fun a h1 h2 h3 => (h.2.1 a h1 h2 h3).trans (g.2.1 a h1 h2 h3), h.2.2.1.trans g.2.2.1, fun j hj => (h.2.2.2.1 j hj).trans (g.2.2.2.1 j hj), fun j hj => (h.2.2.2.2 j hj).trans (g.2.2.2.2 j hj)⟩
theorem zTo_Es {k : Nat} {σ τ : zm_S} (h : zTo k σ τ) : zEs σ τ := ⟨fun i hi => h.1 i (by rintro rfl; cases hi), fun a ha => h.2.1 a (by rintro rfl; cases ha) (by rintro rfl; cases ha) (by rintro rfl; cases ha)⟩
/-- where the search is -/
def zTs (σ : zm_S) (m : Nat) (sd : Nat → Nat → Nat) (k : Nat) (c r : Nat → Nat) (A : zCA) : Prop :=
  σ.2.1 72 73 = nI m ∧ zSd σ m sd ∧ (∀ i, i < 5 → σ.2.1 90 (5 * k + i) = nI (c i) ∧ 1 ≤ c i ∧ c i ≤ 5) ∧ (∀ j, j < k → σ.2.1 91 j = nI (r j)) ∧ σ.1 40 = zlast A.1 ∧ A.1 ≤ 6 ∧ (A.1 ≠ 0 → ∀ j, j < m → σ.2.1 92 j = nI (A.2 j))
theorem dX12_clearMany_0 : decode cX12_clearMany 0 = .ok (.iconst 0, 1) := by decide +kernel
theorem dX12_clearMany_1 : decode cX12_clearMany 1 = .ok (.istore_n 2, 1) := by decide +kernel
theorem dX12_clearMany_2 : decode cX12_clearMany 2 = .ok (.iconst 0, 1) := by decide +kernel
theorem dX12_clearMany_3 : decode cX12_clearMany 3 = .ok (.istore_n 3, 1) := by decide +kernel
theorem dX12_clearMany_4 : decode cX12_clearMany 4 = .ok (.iload_n 3, 1) := by decide +kernel
theorem dX12_clearMany_5 : decode cX12_clearMany 5 = .ok (.iconst 5, 1) := by decide +kernel
theorem dX12_clearMany_6 : decode cX12_clearMany 6 = .ok (.if_icmp .ge 33, 3) := by decide +kernel
theorem dX12_clearMany_9 : decode cX12_clearMany 9 = .ok (.iload_n 2, 1) := by decide +kernel
theorem dX12_clearMany_10 : decode cX12_clearMany 10 = .ok (.aload_n 0, 1) := by decide +kernel
theorem dX12_clearMany_11 : decode cX12_clearMany 11 = .ok (.getfield 101, 3) := by decide +kernel
theorem dX12_clearMany_14 : decode cX12_clearMany 14 = .ok (.iconst 5, 1) := by decide +kernel
theorem dX12_clearMany_15 : decode cX12_clearMany 15 = .ok (.iload_n 1, 1) := by decide +kernel
theorem dX12_clearMany_16 : decode cX12_clearMany 16 = .ok (.imul, 1) := by decide +kernel
theorem dX12_clearMany_17 : decode cX12_clearMany 17 = .ok (.iload_n 3, 1) := by decide +kernel
theorem dX12_clearMany_18 : decode cX12_clearMany 18 = .ok (.iadd, 1) := by decide +kernel
theorem dX12_clearMany_19 : decode cX12_clearMany 19 = .ok (.iaload, 1) := by decide +kernel
theorem dX12_clearMany_20 : decode cX12_clearMany 20 = .ok (.iload_n 3, 1) := by decide +kernel
theorem dX12_clearMany_21 : decode cX12_clearMany 21 = .ok (.iconst 1, 1) := by decide +kernel
theorem dX12_clearMany_22 : decode cX12_clearMany 22 = .ok (.iadd, 1) := by decide +kernel
theorem dX12_clearMany_23 : decode cX12_clearMany 23 = .ok (.if_icmp .ne 7, 3) := by decide +kernel
theorem dX12_clearMany_26 : decode cX12_clearMany 26 = .ok (.iconst 1, 1) := by decide +kernel
theorem dX12_clearMany_27 : decode cX12_clearMany 27 = .ok (.goto 4, 3) := by decide +kernel
theorem dX12_clearMany_30 : decode cX12_clearMany 30 = .ok (.iconst 0, 1) := by decide +kernel
theorem dX12_clearMany_31 : decode cX12_clearMany 31 = .ok (.iadd, 1) := by decide +kernel
theorem dX12_clearMany_32 : decode cX12_clearMany 32 = .ok (.istore_n 2, 1) := by decide +kernel
theorem dX12_clearMany_33 : decode cX12_clearMany 33 = .ok (.iinc 3 1, 3) := by decide +kernel
theorem dX12_clearMany_36 : decode cX12_clearMany 36 = .ok (.goto (-32), 3) := by decide +kernel
theorem dX12_clearMany_39 : decode cX12_clearMany 39 = .ok (.iload_n 2, 1) := by decide +kernel
theorem dX12_clearMany_40 : decode cX12_clearMany 40 = .ok (.ireturn, 1) := by decide +kernel
abbrev mX12_clearMany : zq_M := (cX12_clearMany, RX12, "clearMany", (some .int), 4)
theorem dX12_triesOrder_0 : decode cX12_triesOrder 0 = .ok (.iload_n 1, 1) := by decide +kernel
theorem dX12_triesOrder_1 : decode cX12_triesOrder 1 = .ok (.aload_n 0, 1) := by decide +kernel
theorem dX12_triesOrder_2 : decode cX12_triesOrder 2 = .ok (.invokevirtual 141, 3) := by decide +kernel
theorem dX12_triesOrder_5 : decode cX12_triesOrder 5 = .ok (.if_icmp .ne 51, 3) := by decide +kernel
theorem dX12_triesOrder_8 : decode cX12_triesOrder 8 = .ok (.aload_n 0, 1) := by decide +kernel
theorem dX12_triesOrder_9 : decode cX12_triesOrder 9 = .ok (.iload_n 1, 1) := by decide +kernel
theorem dX12_triesOrder_10 : decode cX12_triesOrder 10 = .ok (.invokevirtual 437, 3) := by decide +kernel
theorem dX12_triesOrder_13 : decode cX12_triesOrder 13 = .ok (.aload_n 0, 1) := by decide +kernel
theorem dX12_triesOrder_14 : decode cX12_triesOrder 14 = .ok (.getfield 440, 3) := by decide +kernel
theorem dX12_triesOrder_17 : decode cX12_triesOrder 17 = .ok (.if_icmp .gt 4, 3) := by decide +kernel
theorem dX12_triesOrder_20 : decode cX12_triesOrder 20 = .ok (.return_, 1) := by decide +kernel
theorem dX12_triesOrder_21 : decode cX12_triesOrder 21 = .ok (.aload_n 0, 1) := by decide +kernel
theorem dX12_triesOrder_22 : decode cX12_triesOrder 22 = .ok (.aload_n 0, 1) := by decide +kernel
theorem dX12_triesOrder_23 : decode cX12_triesOrder 23 = .ok (.iload_n 1, 1) := by decide +kernel
theorem dX12_triesOrder_24 : decode cX12_triesOrder 24 = .ok (.invokevirtual 437, 3) := by decide +kernel
theorem dX12_triesOrder_27 : decode cX12_triesOrder 27 = .ok (.putfield 440, 3) := by decide +kernel
theorem dX12_triesOrder_30 : decode cX12_triesOrder 30 = .ok (.iconst 0, 1) := by decide +kernel
theorem dX12_triesOrder_31 : decode cX12_triesOrder 31 = .ok (.istore_n 3, 1) := by decide +kernel
theorem dX12_triesOrder_32 : decode cX12_triesOrder 32 = .ok (.iload_n 3, 1) := by decide +kernel
theorem dX12_triesOrder_33 : decode cX12_triesOrder 33 = .ok (.iload_n 1, 1) := by decide +kernel
theorem dX12_triesOrder_34 : decode cX12_triesOrder 34 = .ok (.if_icmp .ge 21, 3) := by decide +kernel
theorem dX12_triesOrder_37 : decode cX12_triesOrder 37 = .ok (.aload_n 0, 1) := by decide +kernel
theorem dX12_triesOrder_38 : decode cX12_triesOrder 38 = .ok (.getfield 107, 3) := by decide +kernel
theorem dX12_triesOrder_41 : decode cX12_triesOrder 41 = .ok (.iload_n 3, 1) := by decide +kernel
theorem dX12_triesOrder_42 : decode cX12_triesOrder 42 = .ok (.aload_n 0, 1) := by decide +kernel
theorem dX12_triesOrder_43 : decode cX12_triesOrder 43 = .ok (.getfield 104, 3) := by decide +kernel
theorem dX12_triesOrder_46 : decode cX12_triesOrder 46 = .ok (.iload_n 3, 1) := by decide +kernel
theorem dX12_triesOrder_47 : decode cX12_triesOrder 47 = .ok (.iaload, 1) := by decide +kernel
theorem dX12_triesOrder_48 : decode cX12_triesOrder 48 = .ok (.iastore, 1) := by decide +kernel
theorem dX12_triesOrder_49 : decode cX12_triesOrder 49 = .ok (.iinc 3 1, 3) := by decide +kernel
theorem dX12_triesOrder_52 : decode cX12_triesOrder 52 = .ok (.goto (-20), 3) := by decide +kernel
theorem dX12_triesOrder_55 : decode cX12_triesOrder 55 = .ok (.return_, 1) := by decide +kernel
theorem dX12_triesOrder_56 : decode cX12_triesOrder 56 = .ok (.iconst 0, 1) := by decide +kernel
theorem dX12_triesOrder_57 : decode cX12_triesOrder 57 = .ok (.istore_n 3, 1) := by decide +kernel
theorem dX12_triesOrder_58 : decode cX12_triesOrder 58 = .ok (.iload_n 3, 1) := by decide +kernel
theorem dX12_triesOrder_59 : decode cX12_triesOrder 59 = .ok (.aload_n 0, 1) := by decide +kernel
theorem dX12_triesOrder_60 : decode cX12_triesOrder 60 = .ok (.invokevirtual 141, 3) := by decide +kernel
theorem dX12_triesOrder_63 : decode cX12_triesOrder 63 = .ok (.if_icmp .ge 83, 3) := by decide +kernel
theorem dX12_triesOrder_66 : decode cX12_triesOrder 66 = .ok (.iload_n 2, 1) := by decide +kernel
theorem dX12_triesOrder_67 : decode cX12_triesOrder 67 = .ok (.iload_n 3, 1) := by decide +kernel
theorem dX12_triesOrder_68 : decode cX12_triesOrder 68 = .ok (.invokestatic 377, 3) := by decide +kernel
theorem dX12_triesOrder_71 : decode cX12_triesOrder 71 = .ok (.ifCond .eq 6, 3) := by decide +kernel
theorem dX12_triesOrder_74 : decode cX12_triesOrder 74 = .ok (.goto 66, 3) := by decide +kernel
theorem dX12_triesOrder_77 : decode cX12_triesOrder 77 = .ok (.iconst 0, 1) := by decide +kernel
theorem dX12_triesOrder_78 : decode cX12_triesOrder 78 = .ok (.istore 4, 2) := by decide +kernel
theorem dX12_triesOrder_80 : decode cX12_triesOrder 80 = .ok (.iload 4, 2) := by decide +kernel
theorem dX12_triesOrder_82 : decode cX12_triesOrder 82 = .ok (.iconst 5, 1) := by decide +kernel
theorem dX12_triesOrder_83 : decode cX12_triesOrder 83 = .ok (.if_icmp .ge 38, 3) := by decide +kernel
theorem dX12_triesOrder_86 : decode cX12_triesOrder 86 = .ok (.aload_n 0, 1) := by decide +kernel
theorem dX12_triesOrder_87 : decode cX12_triesOrder 87 = .ok (.getfield 101, 3) := by decide +kernel
theorem dX12_triesOrder_90 : decode cX12_triesOrder 90 = .ok (.iconst 5, 1) := by decide +kernel
theorem dX12_triesOrder_91 : decode cX12_triesOrder 91 = .ok (.iload_n 1, 1) := by decide +kernel
theorem dX12_triesOrder_92 : decode cX12_triesOrder 92 = .ok (.iconst 1, 1) := by decide +kernel
theorem dX12_triesOrder_93 : decode cX12_triesOrder 93 = .ok (.iadd, 1) := by decide +kernel
theorem dX12_triesOrder_94 : decode cX12_triesOrder 94 = .ok (.imul, 1) := by decide +kernel
theorem dX12_triesOrder_95 : decode cX12_triesOrder 95 = .ok (.iload 4, 2) := by decide +kernel
theorem dX12_triesOrder_97 : decode cX12_triesOrder 97 = .ok (.iadd, 1) := by decide +kernel
theorem dX12_triesOrder_98 : decode cX12_triesOrder 98 = .ok (.aload_n 0, 1) := by decide +kernel
theorem dX12_triesOrder_99 : decode cX12_triesOrder 99 = .ok (.iload_n 3, 1) := by decide +kernel
theorem dX12_triesOrder_100 : decode cX12_triesOrder 100 = .ok (.aload_n 0, 1) := by decide +kernel
theorem dX12_triesOrder_101 : decode cX12_triesOrder 101 = .ok (.getfield 101, 3) := by decide +kernel
theorem dX12_triesOrder_104 : decode cX12_triesOrder 104 = .ok (.iconst 5, 1) := by decide +kernel
theorem dX12_triesOrder_105 : decode cX12_triesOrder 105 = .ok (.iload_n 1, 1) := by decide +kernel
theorem dX12_triesOrder_106 : decode cX12_triesOrder 106 = .ok (.imul, 1) := by decide +kernel
theorem dX12_triesOrder_107 : decode cX12_triesOrder 107 = .ok (.iload 4, 2) := by decide +kernel
theorem dX12_triesOrder_109 : decode cX12_triesOrder 109 = .ok (.iadd, 1) := by decide +kernel
theorem dX12_triesOrder_110 : decode cX12_triesOrder 110 = .ok (.iaload, 1) := by decide +kernel
theorem dX12_triesOrder_111 : decode cX12_triesOrder 111 = .ok (.invokevirtual 431, 3) := by decide +kernel
theorem dX12_triesOrder_114 : decode cX12_triesOrder 114 = .ok (.iastore, 1) := by decide +kernel
theorem dX12_triesOrder_115 : decode cX12_triesOrder 115 = .ok (.iinc 4 1, 3) := by decide +kernel
theorem dX12_triesOrder_118 : decode cX12_triesOrder 118 = .ok (.goto (-38), 3) := by decide +kernel
theorem dX12_triesOrder_121 : decode cX12_triesOrder 121 = .ok (.aload_n 0, 1) := by decide +kernel
theorem dX12_triesOrder_122 : decode cX12_triesOrder 122 = .ok (.getfield 104, 3) := by decide +kernel
theorem dX12_triesOrder_125 : decode cX12_triesOrder 125 = .ok (.iload_n 1, 1) := by decide +kernel
theorem dX12_triesOrder_126 : decode cX12_triesOrder 126 = .ok (.iload_n 3, 1) := by decide +kernel
theorem dX12_triesOrder_127 : decode cX12_triesOrder 127 = .ok (.iastore, 1) := by decide +kernel
theorem dX12_triesOrder_128 : decode cX12_triesOrder 128 = .ok (.aload_n 0, 1) := by decide +kernel
theorem dX12_triesOrder_129 : decode cX12_triesOrder 129 = .ok (.iload_n 1, 1) := by decide +kernel
theorem dX12_triesOrder_130 : decode cX12_triesOrder 130 = .ok (.iconst 1, 1) := by decide +kernel
theorem dX12_triesOrder_131 : decode cX12_triesOrder 131 = .ok (.iadd, 1) := by decide +kernel
theorem dX12_triesOrder_132 : decode cX12_triesOrder 132 = .ok (.iload_n 2, 1) := by decide +kernel
theorem dX12_triesOrder_133 : decode cX12_triesOrder 133 = .ok (.iconst 1, 1) := by decide +kernel
theorem dX12_triesOrder_134 : decode cX12_triesOrder 134 = .ok (.iload_n 3, 1) := by decide +kernel
theorem dX12_triesOrder_135 : decode cX12_triesOrder 135 = .ok (.ishl, 1) := by decide +kernel
theorem dX12_triesOrder_136 : decode cX12_triesOrder 136 = .ok (.ior, 1) := by decide +kernel
theorem dX12_triesOrder_137 : decode cX12_triesOrder 137 = .ok (.invokevirtual 443, 3) := by decide +kernel
theorem dX12_triesOrder_140 : decode cX12_triesOrder 140 = .ok (.iinc 3 1, 3) := by decide +kernel
theorem dX12_triesOrder_143 : decode cX12_triesOrder 143 = .ok (.goto (-85), 3) := by decide +kernel
theorem dX12_triesOrder_146 : decode cX12_triesOrder 146 = .ok (.return_, 1) := by decide +kernel
abbrev mX12_triesOrder : zq_M := (cX12_triesOrder, RX12, "triesOrder", none, 5)
theorem dX12_clearest_0 : decode cX12_clearest 0 = .ok (.iload_n 1, 1) := by decide +kernel
theorem dX12_clearest_1 : decode cX12_clearest 1 = .ok (.iconst (-1), 1) := by decide +kernel
theorem dX12_clearest_2 : decode cX12_clearest 2 = .ok (.aload_n 0, 1) := by decide +kernel
theorem dX12_clearest_3 : decode cX12_clearest 3 = .ok (.invokevirtual 141, 3) := by decide +kernel
theorem dX12_clearest_6 : decode cX12_clearest 6 = .ok (.iconst 1, 1) := by decide +kernel
theorem dX12_clearest_7 : decode cX12_clearest 7 = .ok (.isub, 1) := by decide +kernel
theorem dX12_clearest_8 : decode cX12_clearest 8 = .ok (.invokestatic 18, 3) := by decide +kernel
theorem dX12_clearest_11 : decode cX12_clearest 11 = .ok (.ifCond .ne 5, 3) := by decide +kernel
theorem dX12_clearest_14 : decode cX12_clearest 14 = .ok (.iconst (-1), 1) := by decide +kernel
theorem dX12_clearest_15 : decode cX12_clearest 15 = .ok (.ireturn, 1) := by decide +kernel
theorem dX12_clearest_16 : decode cX12_clearest 16 = .ok (.iconst 0, 1) := by decide +kernel
theorem dX12_clearest_17 : decode cX12_clearest 17 = .ok (.istore_n 2, 1) := by decide +kernel
theorem dX12_clearest_18 : decode cX12_clearest 18 = .ok (.iload_n 2, 1) := by decide +kernel
theorem dX12_clearest_19 : decode cX12_clearest 19 = .ok (.iconst 5, 1) := by decide +kernel
theorem dX12_clearest_20 : decode cX12_clearest 20 = .ok (.if_icmp .ge 18, 3) := by decide +kernel
theorem dX12_clearest_23 : decode cX12_clearest 23 = .ok (.aload_n 0, 1) := by decide +kernel
theorem dX12_clearest_24 : decode cX12_clearest 24 = .ok (.getfield 101, 3) := by decide +kernel
theorem dX12_clearest_27 : decode cX12_clearest 27 = .ok (.iload_n 2, 1) := by decide +kernel
theorem dX12_clearest_28 : decode cX12_clearest 28 = .ok (.iload_n 2, 1) := by decide +kernel
theorem dX12_clearest_29 : decode cX12_clearest 29 = .ok (.iconst 1, 1) := by decide +kernel
theorem dX12_clearest_30 : decode cX12_clearest 30 = .ok (.iadd, 1) := by decide +kernel
theorem dX12_clearest_31 : decode cX12_clearest 31 = .ok (.iastore, 1) := by decide +kernel
theorem dX12_clearest_32 : decode cX12_clearest 32 = .ok (.iinc 2 1, 3) := by decide +kernel
theorem dX12_clearest_35 : decode cX12_clearest 35 = .ok (.goto (-17), 3) := by decide +kernel
theorem dX12_clearest_38 : decode cX12_clearest 38 = .ok (.aload_n 0, 1) := by decide +kernel
theorem dX12_clearest_39 : decode cX12_clearest 39 = .ok (.iconst (-1), 1) := by decide +kernel
theorem dX12_clearest_40 : decode cX12_clearest 40 = .ok (.putfield 440, 3) := by decide +kernel
theorem dX12_clearest_43 : decode cX12_clearest 43 = .ok (.aload_n 0, 1) := by decide +kernel
theorem dX12_clearest_44 : decode cX12_clearest 44 = .ok (.iconst 0, 1) := by decide +kernel
theorem dX12_clearest_45 : decode cX12_clearest 45 = .ok (.iconst 0, 1) := by decide +kernel
theorem dX12_clearest_46 : decode cX12_clearest 46 = .ok (.invokevirtual 443, 3) := by decide +kernel
theorem dX12_clearest_49 : decode cX12_clearest 49 = .ok (.iload_n 1, 1) := by decide +kernel
theorem dX12_clearest_50 : decode cX12_clearest 50 = .ok (.iconst (-1), 1) := by decide +kernel
theorem dX12_clearest_51 : decode cX12_clearest 51 = .ok (.if_icmp .ne 10, 3) := by decide +kernel
theorem dX12_clearest_54 : decode cX12_clearest 54 = .ok (.aload_n 0, 1) := by decide +kernel
theorem dX12_clearest_55 : decode cX12_clearest 55 = .ok (.getfield 440, 3) := by decide +kernel
theorem dX12_clearest_58 : decode cX12_clearest 58 = .ok (.goto 9, 3) := by decide +kernel
theorem dX12_clearest_61 : decode cX12_clearest 61 = .ok (.aload_n 0, 1) := by decide +kernel
theorem dX12_clearest_62 : decode cX12_clearest 62 = .ok (.getfield 107, 3) := by decide +kernel
theorem dX12_clearest_65 : decode cX12_clearest 65 = .ok (.iload_n 1, 1) := by decide +kernel
theorem dX12_clearest_66 : decode cX12_clearest 66 = .ok (.iaload, 1) := by decide +kernel
theorem dX12_clearest_67 : decode cX12_clearest 67 = .ok (.ireturn, 1) := by decide +kernel
abbrev mX12_clearest : zq_M := (cX12_clearest, RX12, "clearest", (some .int), 3)
section ZL28
variable {l : Launch} {G : zq_G} {n m : Nat} {ρ : Nat → zq_E} {sd : Nat → Nat → Nat}
theorem zm_clearMany_loop {D k : Nat} {σ : zm_S} {c : Nat → Nat} {post : Option Value → Nat → (Nat → zq_E) → Prop} (hk : k ≤ 7) (hc : ∀ i, i < 5 → σ.2.1 90 (5 * k + i) = nI (c i) ∧ 1 ≤ c i ∧ c i ≤ 5) (hp : post (some (.int (nI (zcn c 5)))) n (zm_h σ ρ)) : ∀ f i : Nat, i + f = 5 → zq_At l G (zq_rm D 0 0) mX12_clearMany (zq_QF G post 0 0) 4 [(0, .ref 70), (1, .int (nI k)), (2, .int (nI (zcn c i))), (3, .int (nI i))] [] n (zm_h σ ρ) 0 0 := by
  intro f
  induction f with
  | zero =>
    intro i hi
    obtain rfl : i = 5 := hi
    refine at_iload_n dX12_clearMany_4 rfl ?_
    refine at_iconst dX12_clearMany_5 (v := nI 5) (by decide) ?_
    refine at_geN (tgt := 39) dX12_clearMany_6 (by decide) (by omega) (by omega) (fun c6 => ?_) (fun c6 => ?_)
    · refine at_iload_n dX12_clearMany_39 rfl ?_
      refine at_iret dX12_clearMany_40 rfl (by omega) (by omega) ?_
      exact hp
    · omega
  | succ f ih =>
    intro i hi
    have hn := ih (i + 1) (by omega)
    have g := hc i (by omega)
    unfold zcn at hn
    refine at_iload_n dX12_clearMany_4 rfl ?_
    refine at_iconst dX12_clearMany_5 (v := nI 5) (by decide) ?_
    refine at_geN (tgt := 39) dX12_clearMany_6 (by decide) (by omega) (by omega) (fun c6 => ?_) (fun c6 => ?_)
    · omega
    · refine at_iload_n dX12_clearMany_9 rfl ?_
      refine at_aload_n dX12_clearMany_10 rfl ?_
      refine at_get dX12_clearMany_11 fl_X12_101 rfl rfl ?_
      refine at_iconst dX12_clearMany_14 (v := nI 5) (by decide) ?_
      refine at_iload_n dX12_clearMany_15 rfl ?_
      refine at_imulN dX12_clearMany_16 ?_
      refine at_iload_n dX12_clearMany_17 rfl ?_
      refine at_iaddN dX12_clearMany_18 ?_
      refine at_mald (a := 90) dX12_clearMany_19 (by decide) (by decide) (by decide) (by decide) rfl rfl (by show _ < 40; omega) (by decide) ?_
      rw [g.1]
      refine at_iload_n dX12_clearMany_20 rfl ?_
      refine at_iconst dX12_clearMany_21 (v := nI 1) (by decide) ?_
      refine at_iaddN dX12_clearMany_22 ?_
      refine at_neN (tgt := 30) dX12_clearMany_23 (by decide) (by omega) (by omega) (fun c23 => ?_) (fun c23 => ?_)
      · rw [if_neg c23] at hn
        refine at_iconst dX12_clearMany_30 (v := nI 0) (by decide) ?_
        refine at_iaddN dX12_clearMany_31 ?_
        refine at_istore_n dX12_clearMany_32 rfl (by decide) ?_
        refine at_iincN dX12_clearMany_33 rfl (by decide) ?_
        refine at_goto (tgt := 4) dX12_clearMany_36 (by decide) ?_
        exact hn
      · rw [if_pos c23] at hn
        refine at_iconst dX12_clearMany_26 (v := nI 1) (by decide) ?_
        refine at_goto (tgt := 31) dX12_clearMany_27 (by decide) ?_
        refine at_iaddN dX12_clearMany_31 ?_
        refine at_istore_n dX12_clearMany_32 rfl (by decide) ?_
        refine at_iincN dX12_clearMany_33 rfl (by decide) ?_
        refine at_goto (tgt := 4) dX12_clearMany_36 (by decide) ?_
        exact hn
theorem zm_clearMany {D k : Nat} {σ : zm_S} {c : Nat → Nat} {post : Option Value → Nat → (Nat → zq_E) → Prop} (hk : k ≤ 7) (hc : ∀ i, i < 5 → σ.2.1 90 (5 * k + i) = nI (c i) ∧ 1 ≤ c i ∧ c i ≤ 5) (hp : post (some (.int (nI (zcn c 5)))) n (zm_h σ ρ)) : zq_Runs l G D 0 0 yX12_clearMany [.ref 70, .int (nI k)] n (zm_h σ ρ) post := by
  refine zq_enter (cc := cX12_clearMany) (nL := 4) (ret := (some .int)) cw_X12_clearMany (by decide) rfl (Nat.le_of_ble_eq_true rfl) ?_
  refine at_iconst dX12_clearMany_0 (v := nI 0) (by decide) ?_
  refine at_istore_n dX12_clearMany_1 rfl (by decide) ?_
  refine at_iconst dX12_clearMany_2 (v := nI 0) (by decide) ?_
  refine at_istore_n dX12_clearMany_3 rfl (by decide) ?_
  exact zm_clearMany_loop hk hc hp 5 0 rfl
theorem zm_tries_copy {D k u : Nat} {σ : zm_S} {r : Nat → Nat} {post : Option Value → Nat → (Nat → zq_E) → Prop} (hk : k ≤ 7) (hr : ∀ j, j < k → σ.2.1 91 j = nI (r j)) (hp : ∀ g, (∀ j, j < k → g j = nI (r j)) → post none n (zm_h (zsA σ 92 g) ρ)) : ∀ f i : Nat, i + f = k → ∀ g, (∀ j, j < i → g j = nI (r j)) → zq_At l G (zq_rm D 0 0) mX12_triesOrder (zq_QF G post 0 0) 32 [(0, .ref 70), (1, .int (nI k)), (2, .int (nI u)), (3, .int (nI i))] [] n (zm_h (zsA σ 92 g) ρ) 0 0 := by
  intro f
  induction f with
  | zero =>
    intro i hi g hg
    obtain rfl : i = k := hi
    have hp := hp g hg
    refine at_iload_n dX12_triesOrder_32 rfl ?_
    refine at_iload_n dX12_triesOrder_33 rfl ?_
    refine at_geN (tgt := 55) dX12_triesOrder_34 (by decide) (by omega) (by omega) (fun c34 => ?_) (fun c34 => ?_)
    · refine at_vret dX12_triesOrder_55 rfl (by omega) (by omega) ?_
      exact hp
    · omega
  | succ f ih =>
    intro i hi g hg
    have h1 := hr i (by omega)
    have hn := ih (i + 1) (by omega) (upd g i (nI (r i))) (fun j hj => by
      by_cases e : j = i
      · subst e; rw [upd_s]
      · rw [upd_o _ e]; exact hg j (by omega))
    refine at_iload_n dX12_triesOrder_32 rfl ?_
    refine at_iload_n dX12_triesOrder_33 rfl ?_
    refine at_geN (tgt := 55) dX12_triesOrder_34 (by decide) (by omega) (by omega) (fun c34 => ?_) (fun c34 => ?_)
    · omega
    · refine at_aload_n dX12_triesOrder_37 rfl ?_
      refine at_get dX12_triesOrder_38 fl_X12_107 rfl rfl ?_
      refine at_iload_n dX12_triesOrder_41 rfl ?_
      refine at_aload_n dX12_triesOrder_42 rfl ?_
      refine at_get dX12_triesOrder_43 fl_X12_104 rfl rfl ?_
      refine at_iload_n dX12_triesOrder_46 rfl ?_
      refine at_mald (a := 91) dX12_triesOrder_47 (by decide) (by decide) (by decide) (by decide) rfl rfl (by show _ < 7; omega) (by decide) ?_
      rw [zsA_o _ (by decide), h1]
      refine at_mast (a := 92) dX12_triesOrder_48 (by decide) (by decide) (by decide) (by decide) rfl rfl (by show _ < 7; omega) (by decide) ?_
      rw [zsA_a]
      refine at_iincN dX12_triesOrder_49 rfl (by decide) ?_
      refine at_goto (tgt := 32) dX12_triesOrder_52 (by decide) ?_
      exact hn
theorem zm_tries_say {D k u p : Nat} {σ : zm_S} {c : Nat → Nat} {post : Option Value → Nat → (Nat → zq_E) → Prop} (hD : 1 ≤ D) (hk : k < 7) (hp7 : p < m) (hm7 : m ≤ 7) (hS : zSd σ m sd) (hc : ∀ i, i < 5 → σ.2.1 90 (5 * k + i) = nI (c i) ∧ 1 ≤ c i ∧ c i ≤ 5) (hq : ∀ g, (∀ j, j < 5 * (k + 1) → g j = σ.2.1 90 j) → (∀ i, i < 5 → g (5 * (k + 1) + i) = nI (sd p (c i))) → zq_At l G (zq_rm D 0 0) mX12_triesOrder (zq_QF G post 0 0) 121 [(0, .ref 70), (1, .int (nI k)), (2, .int (nI u)), (3, .int (nI p))] [] n (zm_h (zsA σ 90 g) ρ) 0 0) : ∀ f i : Nat, i + f = 5 → ∀ g, (∀ j, j < 5 * (k + 1) → g j = σ.2.1 90 j) → (∀ j, j < i → g (5 * (k + 1) + j) = nI (sd p (c j))) → zq_At l G (zq_rm D 0 0) mX12_triesOrder (zq_QF G post 0 0) 80 [(0, .ref 70), (1, .int (nI k)), (2, .int (nI u)), (3, .int (nI p)), (4, .int (nI i))] [] n (zm_h (zsA σ 90 g) ρ) 0 0 := by
  intro f
  induction f with
  | zero =>
    intro i hi g g1 g2
    obtain rfl : i = 5 := hi
    refine at_iload dX12_triesOrder_80 rfl ?_
    refine at_iconst dX12_triesOrder_82 (v := nI 5) (by decide) ?_
    refine at_geN (tgt := 121) dX12_triesOrder_83 (by decide) (by omega) (by omega) (fun c83 => ?_) (fun c83 => ?_)
    · exact at_lv [0, 1, 2, 3] (hq g g1 g2)
    · omega
  | succ f ih =>
    intro i hi g g1 g2
    have h1 := hc i (by omega)
    have h2 := g1 (5 * k + i) (by omega)
    have h3 := (hS p (c i) hp7 h1.2.1 h1.2.2).1
    have hn := ih (i + 1) (by omega) (upd g (5 * (k + 1) + i) (nI (sd p (c i)))) (fun j hj => by rw [upd_o _ (by omega)]; exact g1 j hj) (fun j hj => by
      by_cases e : j = i
      · subst e; rw [upd_s]
      · rw [upd_o _ (by omega)]; exact g2 j (by omega))
    refine at_iload dX12_triesOrder_80 rfl ?_
    refine at_iconst dX12_triesOrder_82 (v := nI 5) (by decide) ?_
    refine at_geN (tgt := 121) dX12_triesOrder_83 (by decide) (by omega) (by omega) (fun c83 => ?_) (fun c83 => ?_)
    · omega
    · refine at_aload_n dX12_triesOrder_86 rfl ?_
      refine at_get dX12_triesOrder_87 fl_X12_101 rfl rfl ?_
      refine at_iconst dX12_triesOrder_90 (v := nI 5) (by decide) ?_
      refine at_iload_n dX12_triesOrder_91 rfl ?_
      refine at_iconst dX12_triesOrder_92 (v := nI 1) (by decide) ?_
      refine at_iaddN dX12_triesOrder_93 ?_
      refine at_imulN dX12_triesOrder_94 ?_
      refine at_iload dX12_triesOrder_95 rfl ?_
      refine at_iaddN dX12_triesOrder_97 ?_
      refine at_aload_n dX12_triesOrder_98 rfl ?_
      refine at_iload_n dX12_triesOrder_99 rfl ?_
      refine at_aload_n dX12_triesOrder_100 rfl ?_
      refine at_get dX12_triesOrder_101 fl_X12_101 rfl rfl ?_
      refine at_iconst dX12_triesOrder_104 (v := nI 5) (by decide) ?_
      refine at_iload_n dX12_triesOrder_105 rfl ?_
      refine at_imulN dX12_triesOrder_106 ?_
      refine at_iload dX12_triesOrder_107 rfl ?_
      refine at_iaddN dX12_triesOrder_109 ?_
      refine at_mald (a := 90) dX12_triesOrder_110 (by decide) (by decide) (by decide) (by decide) rfl rfl (by show _ < 40; omega) (by decide) ?_
      rw [zsA_s, h2, h1.1]
      refine at_callV2 (d := D - 1) dX12_triesOrder_111 mv_X12_431 rfl (Nat.le_of_ble_eq_true rfl) (zq_r0 (by omega) (by omega) (by omega)) ?_
      refine zm_saysOn (by omega) (by omega) (by omega) ?_
      rw [zsA_o _ (by decide), h3]
      refine at_mast (a := 90) dX12_triesOrder_114 (by decide) (by decide) (by decide) (by decide) rfl rfl (by show _ < 40; omega) (by decide) ?_
      rw [zsA_a]
      refine at_iincN dX12_triesOrder_115 rfl (by decide) ?_
      refine at_goto (tgt := 80) dX12_triesOrder_118 (by decide) ?_
      exact hn
theorem zclI_le {R : Nat → zCA → zCA} {u : Nat} : ∀ f p A, zclI R u (f + 1) p A = zclI R u f (p + 1) (if u / 2 ^ p % 2 = 1 then A else R p A) := fun _ _ _ => rfl
theorem zm_triesOrder (hm7 : m ≤ 7) : ∀ (f k u D : Nat) (c r : Nat → Nat) (A : zCA) (σ : zm_S) (post : Option Value → Nat → (Nat → zq_E) → Prop), k + f = m → u < 128 → f + 3 ≤ D → zTs σ m sd k c r A →
    (∀ τ, zTo k τ σ → τ.1 40 = zlast (zclF sd m f k u c r A).1 → (zclF sd m f k u c r A).1 ≤ 6 → ((zclF sd m f k u c r A).1 ≠ 0 → ∀ j, j < m → τ.2.1 92 j = nI ((zclF sd m f k u c r A).2 j)) → post none n (zm_h τ ρ)) → zq_Runs l G D 0 0 yX12_triesOrder [.ref 70, .int (nI k), .int (nI u)] n (zm_h σ ρ) post := by
  intro f
  induction f with
  | zero =>
    intro k u D c r A σ post hk hu hD ⟨t1, t2, t3, t4, t5, t6, t7⟩ hp
    obtain rfl : k = m := hk
    unfold zclF at hp
    have hn5 := zcn_le c 5
    refine zq_enter (cc := cX12_triesOrder) (nL := 5) (ret := none) cw_X12_triesOrder (by decide) rfl (Nat.le_of_ble_eq_true rfl) ?_
    refine at_iload_n dX12_triesOrder_0 rfl ?_
    refine at_aload_n dX12_triesOrder_1 rfl ?_
    refine at_callV0 (d := D - 1) dX12_triesOrder_2 mv_X12_141 rfl (Nat.le_of_ble_eq_true rfl) (zq_r0 (by omega) (by omega) (by omega)) ?_
    refine zm_many t1 ?_
    refine at_neN (tgt := 56) dX12_triesOrder_5 (by decide) (by omega) (by omega) (fun c5 => ?_) (fun c5 => ?_)
    · omega
    · refine at_aload_n dX12_triesOrder_8 rfl ?_
      refine at_iload_n dX12_triesOrder_9 rfl ?_
      refine at_callV1 (d := D - 1) dX12_triesOrder_10 mv_X12_437 rfl (Nat.le_of_ble_eq_true rfl) (zq_r0 (by omega) (by omega) (by omega)) ?_
      refine zm_clearMany hm7 t3 ?_
      refine at_aload_n dX12_triesOrder_13 rfl ?_
      refine at_get dX12_triesOrder_14 fl_X12_440 rfl rfl ?_
      rw [t5]
      refine at_icmp_gt (tgt := 21) dX12_triesOrder_17 (by decide) (fun c17 => ?_) (fun c17 => ?_)
      · have h0 := (zlast_lt (by omega) (by omega)).mp c17
        rw [if_neg (by omega)] at hp
        refine at_aload_n dX12_triesOrder_21 rfl ?_
        refine at_aload_n dX12_triesOrder_22 rfl ?_
        refine at_iload_n dX12_triesOrder_23 rfl ?_
        refine at_callV1 (d := D - 1) dX12_triesOrder_24 mv_X12_437 rfl (Nat.le_of_ble_eq_true rfl) (zq_r0 (by omega) (by omega) (by omega)) ?_
        refine zm_clearMany hm7 t3 ?_
        refine at_mput dX12_triesOrder_27 (pl_X12_440 _) (fun _ => ⟨_, rfl⟩) rfl rfl ?_
        refine at_iconst dX12_triesOrder_30 (v := nI 0) (by decide) ?_
        refine at_istore_n dX12_triesOrder_31 rfl (by decide) ?_
        have hgo := zm_tries_copy (l := l) (G := G) (D := D) (n := n) (ρ := ρ) (u := u) (σ := zm_si σ 40 (nI (zcn c 5))) (r := r) (post := post) hm7 t4 (fun g hg => hp _ ⟨fun i hi => zsi_o _ hi _, fun a h1 h2 h3 => zsA_o _ h3 _, rfl, fun j _ => congrFun (zsA_o (zm_si σ 40 (nI (zcn c 5))) (by decide) g) j, fun j _ => congrFun (zsA_o (zm_si σ 40 (nI (zcn c 5))) (by decide) g) j⟩ (by show (zm_si σ 40 _).1 40 = _; rw [zsi_s]; rfl) (by show zcn c 5 + 1 ≤ 6; omega) (fun _ j hj => by rw [zsA_s]; exact hg j hj)) k 0 (Nat.zero_add k) ((zm_si σ 40 (nI (zcn c 5))).2.1 92) (fun j hj => absurd hj (Nat.not_lt_zero _))
        rw [zsA_0] at hgo
        exact hgo
      · have h0 : ¬ A.1 < zcn c 5 + 1 := fun h => c17 ((zlast_lt (by omega) (by omega)).mpr h)
        rw [if_pos (by omega)] at hp
        have hp := hp σ (zTo_r _ _) t5 t6 t7
        refine at_vret dX12_triesOrder_20 rfl (by omega) (by omega) ?_
        exact hp
  | succ f ih =>
    intro k u D c r A σ post hk hu hD hT hp
    have loop : ∀ (g p : Nat) (B : zCA) (τ : zm_S), p + g = m → zTo k τ σ → zTs τ m sd k c r B → zclF sd m (f + 1) k u c r A = zclI (fun p A => zclF sd m f (k + 1) (u ||| 2 ^ p) (fun i => sd p (c i)) (zun r k p) A) u g p B → zq_At l G (zq_rm D 0 0) mX12_triesOrder (zq_QF G post 0 0) 58 [(0, .ref 70), (1, .int (nI k)), (2, .int (nI u)), (3, .int (nI p))] [] n (zm_h τ ρ) 0 0 := by
      intro g
      induction g with
      | zero =>
        intro p B τ hpm ho ⟨t1, t2, t3, t4, t5, t6, t7⟩ he
        obtain rfl : p = m := hpm
        have he : zclF sd p (f + 1) k u c r A = B := he
        rw [he] at hp
        have hp := hp τ ho t5 t6 t7
        refine at_iload_n dX12_triesOrder_58 rfl ?_
        refine at_aload_n dX12_triesOrder_59 rfl ?_
        refine at_callV0 (d := D - 1) dX12_triesOrder_60 mv_X12_141 rfl (Nat.le_of_ble_eq_true rfl) (zq_r0 (by omega) (by omega) (by omega)) ?_
        refine zm_many t1 ?_
        refine at_geN (tgt := 146) dX12_triesOrder_63 (by decide) (by omega) (by omega) (fun c63 => ?_) (fun c63 => ?_)
        · refine at_vret dX12_triesOrder_146 rfl (by omega) (by omega) ?_
          exact hp
        · omega
      | succ g ihg =>
        intro p B τ hpm ho hT he
        obtain ⟨t1, t2, t3, t4, t5, t6, t7⟩ := hT
        rw [zclI_le] at he
        refine at_iload_n dX12_triesOrder_58 rfl ?_
        refine at_aload_n dX12_triesOrder_59 rfl ?_
        refine at_callV0 (d := D - 1) dX12_triesOrder_60 mv_X12_141 rfl (Nat.le_of_ble_eq_true rfl) (zq_r0 (by omega) (by omega) (by omega)) ?_
        refine zm_many t1 ?_
        refine at_geN (tgt := 146) dX12_triesOrder_63 (by decide) (by omega) (by omega) (fun c63 => ?_) (fun c63 => ?_)
        · omega
        · refine at_iload_n dX12_triesOrder_66 rfl ?_
          refine at_iload_n dX12_triesOrder_67 rfl ?_
          refine at_callS2 (d := D - 1) dX12_triesOrder_68 ms_X12_377 (Nat.le_of_ble_eq_true rfl) (zq_r0 (by omega) (by omega) (by omega)) ?_
          refine zm_isIn (by omega) (by omega) ?_
          refine at_if_eqB (tgt := 77) dX12_triesOrder_71 (by decide) (fun c71 => ?_) (fun c71 => ?_)
          · rw [if_neg (of_decide_eq_false c71)] at he
            refine at_iconst dX12_triesOrder_77 (v := nI 0) (by decide) ?_
            refine at_istore dX12_triesOrder_78 (by decide) ?_
            have hq : ∀ g', (∀ j, j < 5 * (k + 1) → g' j = τ.2.1 90 j) → (∀ i, i < 5 → g' (5 * (k + 1) + i) = nI (sd p (c i))) → zq_At l G (zq_rm D 0 0) mX12_triesOrder (zq_QF G post 0 0) 121 [(0, .ref 70), (1, .int (nI k)), (2, .int (nI u)), (3, .int (nI p))] [] n (zm_h (zsA τ 90 g') ρ) 0 0 := by
              intro g' q1 q2
              have hu2 : u ||| 2 ^ p < 128 := Nat.or_lt_two_pow (n := 7) hu (Nat.pow_lt_pow_right (by decide) (by omega))
              have hT2 : zTs (zsA (zsA τ 90 g') 91 (upd (τ.2.1 91) k (nI p))) m sd (k + 1) (fun i => sd p (c i)) (zun r k p) B := by
                refine ⟨?_, ?_, ?_, ?_, t5, t6, ?_⟩
                · rw [zsA_o _ (by decide), zsA_o _ (by decide)]; exact t1
                · intro p' y h1 h2 h3
                  rw [zsA_o _ (by decide), zsA_o _ (by decide)]
                  exact t2 p' y h1 h2 h3
                · intro i hi
                  rw [zsA_o _ (by decide), zsA_s]
                  exact ⟨q2 i hi, (t2 p (c i) (by omega) (t3 i hi).2.1 (t3 i hi).2.2).2⟩
                · intro j hj
                  rw [zsA_s]
                  unfold zun
                  by_cases e : j = k
                  · subst e; rw [upd_s, if_pos rfl]
                  · rw [upd_o _ e, if_neg e]; exact t4 j (by omega)
                · rw [zsA_o _ (by decide), zsA_o _ (by decide)]
                  exact t7
              refine at_aload_n dX12_triesOrder_121 rfl ?_
              refine at_get dX12_triesOrder_122 fl_X12_104 rfl rfl ?_
              refine at_iload_n dX12_triesOrder_125 rfl ?_
              refine at_iload_n dX12_triesOrder_126 rfl ?_
              refine at_mast (a := 91) dX12_triesOrder_127 (by decide) (by decide) (by decide) (by decide) rfl rfl (by show _ < 7; omega) (by decide) ?_
              rw [zsA_m, zsA_o _ (by decide)]
              refine at_aload_n dX12_triesOrder_128 rfl ?_
              refine at_iload_n dX12_triesOrder_129 rfl ?_
              refine at_iconst dX12_triesOrder_130 (v := nI 1) (by decide) ?_
              refine at_iaddN dX12_triesOrder_131 ?_
              refine at_iload_n dX12_triesOrder_132 rfl ?_
              refine at_iconst dX12_triesOrder_133 (v := nI 1) (by decide) ?_
              refine at_iload_n dX12_triesOrder_134 rfl ?_
              refine at_ishl dX12_triesOrder_135 ?_
              rw [zshl1 (by omega)]
              refine at_ior dX12_triesOrder_136 ?_
              rw [zor]
              refine at_callV2 (d := D - 1) dX12_triesOrder_137 mv_X12_443 rfl (Nat.le_of_ble_eq_true rfl) (zq_r0 (by omega) (by omega) (by omega)) ?_
              refine ih (k + 1) (u ||| 2 ^ p) _ _ _ B _ _ (by omega) hu2 (by omega) hT2 (fun υ o1 o2 o3 o4 => ?_)
              have hnx := ihg (p + 1) _ υ (by omega) ?_ ?_ he
              refine at_iincN dX12_triesOrder_140 rfl (by decide) ?_
              refine at_goto (tgt := 58) dX12_triesOrder_143 (by decide) ?_
              · exact hnx
              · refine zTo_t (τ := τ) ⟨o1.1, fun a h1 h2 h3 => ?_, o1.2.2.1, fun j hj => ?_, fun j hj => ?_⟩ ho
                · rw [o1.2.1 a h1 h2 h3, zsA_o _ h2, zsA_o _ h1]
                · rw [o1.2.2.2.1 j (by omega), zsA_o _ (by decide), zsA_s]; exact q1 j hj
                · rw [o1.2.2.2.2 j (by omega), zsA_s, upd_o _ (by omega)]
              · refine ⟨?_, ?_, ?_, ?_, o2, o3, o4⟩
                · rw [o1.2.1 72 (by decide) (by decide) (by decide), zsA_o _ (by decide), zsA_o _ (by decide)]; exact t1
                · intro p' y h1 h2 h3
                  rw [o1.2.1 72 (by decide) (by decide) (by decide), zsA_o _ (by decide), zsA_o _ (by decide)]
                  exact t2 p' y h1 h2 h3
                · intro i hi
                  rw [o1.2.2.2.1 _ (by omega), zsA_o _ (by decide), zsA_s, q1 _ (by omega)]
                  exact t3 i hi
                · intro j hj
                  rw [o1.2.2.2.2 j (by omega), zsA_s, upd_o _ (by omega)]
                  exact t4 j hj
            have hgo := zm_tries_say (l := l) (G := G) (n := n) (ρ := ρ) (u := u) (by omega) (by omega) (by omega) hm7 t2 t3 hq 5 0 rfl (τ.2.1 90) (fun _ _ => rfl) (fun j hj => absurd hj (Nat.not_lt_zero _))
            rw [zsA_0] at hgo
            exact hgo
          · rw [if_pos (of_decide_eq_true c71)] at he
            have hnx := ihg (p + 1) B τ (by omega) ho ⟨t1, t2, t3, t4, t5, t6, t7⟩ he
            refine at_goto (tgt := 140) dX12_triesOrder_74 (by decide) ?_
            refine at_iincN dX12_triesOrder_140 rfl (by decide) ?_
            refine at_goto (tgt := 58) dX12_triesOrder_143 (by decide) ?_
            exact hnx
    have hl0 := loop m 0 A σ (Nat.zero_add m) (zTo_r _ _) hT rfl
    obtain ⟨t1, -⟩ := hT
    refine zq_enter (cc := cX12_triesOrder) (nL := 5) (ret := none) cw_X12_triesOrder (by decide) rfl (Nat.le_of_ble_eq_true rfl) ?_
    refine at_iload_n dX12_triesOrder_0 rfl ?_
    refine at_aload_n dX12_triesOrder_1 rfl ?_
    refine at_callV0 (d := D - 1) dX12_triesOrder_2 mv_X12_141 rfl (Nat.le_of_ble_eq_true rfl) (zq_r0 (by omega) (by omega) (by omega)) ?_
    refine zm_many t1 ?_
    refine at_neN (tgt := 56) dX12_triesOrder_5 (by decide) (by omega) (by omega) (fun c5 => ?_) (fun c5 => ?_)
    · refine at_iconst dX12_triesOrder_56 (v := nI 0) (by decide) ?_
      refine at_istore_n dX12_triesOrder_57 rfl (by decide) ?_
      exact hl0
    · omega
theorem zm_clearest_0 {D : Nat} {i : Int32} {σ : zm_S} {post : Option Value → Nat → (Nat → zq_E) → Prop} (hk : ∀ g, (∀ j, j < 5 → g j = nI (j + 1)) → zq_At l G (zq_rm D 0 0) mX12_clearest (zq_QF G post 0 0) 38 [(0, .ref 70), (1, .int i)] [] n (zm_h (zsA σ 90 g) ρ) 0 0) : ∀ f a : Nat, a + f = 5 → ∀ g, (∀ j, j < a → g j = nI (j + 1)) → zq_At l G (zq_rm D 0 0) mX12_clearest (zq_QF G post 0 0) 18 [(0, .ref 70), (1, .int i), (2, .int (nI a))] [] n (zm_h (zsA σ 90 g) ρ) 0 0 := by
  intro f
  induction f with
  | zero =>
    intro a ha g hg
    obtain rfl : a = 5 := ha
    refine at_iload_n dX12_clearest_18 rfl ?_
    refine at_iconst dX12_clearest_19 (v := nI 5) (by decide) ?_
    refine at_geN (tgt := 38) dX12_clearest_20 (by decide) (by omega) (by omega) (fun c20 => ?_) (fun c20 => ?_)
    · exact at_lv [0, 1] (hk g hg)
    · omega
  | succ f ih =>
    intro a ha g hg
    have hn := ih (a + 1) (by omega) (upd g a (nI (a + 1))) (fun j hj => by
      by_cases e : j = a
      · subst e; rw [upd_s]
      · rw [upd_o _ e]; exact hg j (by omega))
    refine at_iload_n dX12_clearest_18 rfl ?_
    refine at_iconst dX12_clearest_19 (v := nI 5) (by decide) ?_
    refine at_geN (tgt := 38) dX12_clearest_20 (by decide) (by omega) (by omega) (fun c20 => ?_) (fun c20 => ?_)
    · omega
    · refine at_aload_n dX12_clearest_23 rfl ?_
      refine at_get dX12_clearest_24 fl_X12_101 rfl rfl ?_
      refine at_iload_n dX12_clearest_27 rfl ?_
      refine at_iload_n dX12_clearest_28 rfl ?_
      refine at_iconst dX12_clearest_29 (v := nI 1) (by decide) ?_
      refine at_iaddN dX12_clearest_30 ?_
      refine at_mast (a := 90) dX12_clearest_31 (by decide) (by decide) (by decide) (by decide) rfl rfl (by show _ < 40; omega) (by decide) ?_
      rw [zsA_a]
      refine at_iincN dX12_clearest_32 rfl (by decide) ?_
      refine at_goto (tgt := 18) dX12_clearest_35 (by decide) ?_
      exact hn
theorem zbit_or (u p j : Nat) : (u ||| 2 ^ p) / 2 ^ j % 2 = if j = p then 1 else u / 2 ^ j % 2 := by
  have h := Nat.testBit_or u (2 ^ p) j
  have e1 := Nat.testBit_eq_decide_div_mod_eq (x := u ||| 2 ^ p) (i := j)
  have e2 := Nat.testBit_eq_decide_div_mod_eq (x := u) (i := j)
  rw [Nat.testBit_two_pow] at h
  by_cases hj : j = p
  · subst hj
    rw [if_pos rfl]
    rw [decide_eq_true rfl, Bool.or_true, e1] at h
    exact of_decide_eq_true h
  · rw [if_neg hj]
    rw [decide_eq_false (fun e => hj e.symm), Bool.or_false, e1, e2] at h
    have h1 := decide_eq_decide.mp h
    have := Nat.mod_two_eq_zero_or_one ((u ||| 2 ^ p) / 2 ^ j)
    have := Nat.mod_two_eq_zero_or_one (u / 2 ^ j)
    omega
theorem zpop_or (u p : Nat) (h : u / 2 ^ p % 2 ≠ 1) : ∀ k, zpop (u ||| 2 ^ p) k = zpop u k + if p < k then 1 else 0
  | 0 => by rw [if_neg (by omega)]; rfl
  | k + 1 => by
    unfold zpop
    rw [zpop_or u p h k, zbit_or]
    have := Nat.mod_two_eq_zero_or_one (u / 2 ^ p)
    by_cases e : k = p
    · subst e; rw [if_pos rfl, if_neg (by omega), if_pos (by omega)]; omega
    · rw [if_neg e]
      by_cases e2 : p < k
      · rw [if_pos e2, if_pos (by omega)]; omega
      · rw [if_neg e2, if_neg (by omega)]; omega
theorem zpop_full (u : Nat) : ∀ k, (∀ p, p < k → u / 2 ^ p % 2 = 1) → zpop u k = k
  | 0, _ => rfl
  | k + 1, h => by
    unfold zpop
    rw [zpop_full u k (fun p hp => h p (by omega)), h k (by omega)]
theorem zclI_ge {R : Nat → zCA → zCA} {u : Nat} (hR : ∀ p A, A.1 ≤ (R p A).1) : ∀ f p A, A.1 ≤ (zclI R u f p A).1
  | 0, _, _ => Nat.le_refl _
  | f + 1, p, A => by
    rw [zclI_le]
    refine Nat.le_trans ?_ (zclI_ge hR f (p + 1) _)
    split
    · exact Nat.le_refl _
    · exact hR p A
theorem zclF_ge (sd : Nat → Nat → Nat) (m : Nat) : ∀ f k u c r A, A.1 ≤ (zclF sd m f k u c r A).1
  | 0, _, _, c, r, A => by
    unfold zclF
    split
    · exact Nat.le_refl _
    · show A.1 ≤ zcn c 5 + 1; omega
  | f + 1, k, u, c, r, A => zclI_ge (fun p A => zclF_ge sd m f (k + 1) _ _ _ A) m 0 A
theorem zclI_ne {R : Nat → zCA → zCA} {u : Nat} (hR : ∀ p A, A.1 ≤ (R p A).1) : ∀ f p A, (∃ q, p ≤ q ∧ q < p + f ∧ u / 2 ^ q % 2 ≠ 1 ∧ ∀ A, (R q A).1 ≠ 0) → (zclI R u f p A).1 ≠ 0
  | 0, p, A, ⟨q, h1, h2, _⟩ => by omega
  | f + 1, p, A, ⟨q, h1, h2, h3, h4⟩ => by
    rw [zclI_le]
    by_cases e : q = p
    · subst e
      rw [if_neg h3]
      have := zclI_ge (u := u) hR f (q + 1) (R q A)
      have := h4 A
      omega
    · exact zclI_ne hR f (p + 1) _ ⟨q, by omega, by omega, h3, h4⟩
theorem zclF_ne (sd : Nat → Nat → Nat) (m : Nat) : ∀ f k u c r A, k + f = m → zpop u m = k → (zclF sd m f k u c r A).1 ≠ 0
  | 0, _, _, c, r, A, _, _ => by
    unfold zclF
    split
    · next h => show A.1 ≠ 0; omega
    · show zcn c 5 + 1 ≠ 0; omega
  | f + 1, k, u, c, r, A, hk, hu => by
    refine zclI_ne (fun p A => zclF_ge sd m f (k + 1) _ _ _ A) m 0 A ?_
    by_cases hall : ∀ p, p < m → u / 2 ^ p % 2 = 1
    · have := zpop_full u m hall; omega
    · obtain ⟨p, hp⟩ := Classical.not_forall.mp hall
      obtain ⟨hp1, hp2⟩ := Classical.not_imp.mp hp
      refine ⟨p, Nat.zero_le _, by omega, hp2, fun A => zclF_ne sd m f (k + 1) _ _ _ A (by omega) ?_⟩
      rw [zpop_or u p hp2, if_pos hp1, hu]
/-- the clearest row, how many letters come to themselves and one -/
def zclA (sd : Nat → Nat → Nat) (m : Nat) : zCA := zclF sd m m 0 0 (fun i => i + 1) (fun _ => 0) (0, fun _ => 0)
theorem zpop_0 : ∀ k, zpop 0 k = 0
  | 0 => rfl
  | k + 1 => by unfold zpop; rw [zpop_0 k]; simp
theorem zclA_ne (sd : Nat → Nat → Nat) (m : Nat) : (zclA sd m).1 ≠ 0 := zclF_ne sd m m 0 0 _ _ _ (Nat.zero_add m) (zpop_0 m)
theorem zlw_t {t : Nat} {v : Int32} (ht : t < 1000) (h : zlw t v = true) : v = -1 ∨ ∃ j, j < t ∧ v = nI j := by
  unfold zlw at h
  rw [Bool.and_eq_true, decide_eq_true_eq, decide_eq_true_eq, Int32.le_iff_toInt_le, Int32.le_iff_toInt_le, pk_sub_toInt (by omega) (by decide)] at h
  have h1 : (-1 : Int32).toInt = -1 := rfl
  by_cases h0 : v.toInt = -1
  · exact Or.inl (Int32.toInt_inj.mp (h0.trans h1.symm))
  · obtain ⟨j, hj, rfl⟩ := nI_of (x := v) (by rw [Int32.not_lt, Int32.le_iff_toInt_le]; have : (0 : Int32).toInt = 0 := rfl; omega)
    rw [nI_toInt hj] at h
    exact Or.inr ⟨j, by omega, rfl⟩
theorem zm_clearest {D : Nat} {i : Int32} {x w rk : Nat → Nat} {σ : zm_S} {post : Option Value → Nat → (Nat → zq_E) → Prop} (hD : 14 ≤ D) (hC : zC σ m x w rk) (hS : zSd σ m sd) (hf : zlw m i = false → post (some (.int (-1))) n (zm_h σ ρ))
    (ht : zlw m i = true → ∀ τ, zEs τ σ → post (some (.int (if i = -1 then zlast (zclA sd m).1 else nI ((zclA sd m).2 i.toNatClampNeg)))) n (zm_h τ ρ)) : zq_Runs l G D 0 0 yX12_clearest [.ref 70, .int i] n (zm_h σ ρ) post := by
  have hm := hC.1
  have hm7 := hC.2.1
  have hne := zclA_ne sd m
  refine zq_enter (cc := cX12_clearest) (nL := 3) (ret := (some .int)) cw_X12_clearest (by decide) rfl (Nat.le_of_ble_eq_true rfl) ?_
  refine at_iload_n dX12_clearest_0 rfl ?_
  refine at_iconst dX12_clearest_1 (v := -1) rfl ?_
  refine at_aload_n dX12_clearest_2 rfl ?_
  refine at_callV0 (d := D - 1) dX12_clearest_3 mv_X12_141 rfl (Nat.le_of_ble_eq_true rfl) (zq_r0 (by omega) (by omega) (by omega)) ?_
  refine zm_many hm ?_
  refine at_iconst dX12_clearest_6 (v := nI 1) (by decide) ?_
  refine at_isub dX12_clearest_7 ?_
  refine at_callS3 (d := D - 1) dX12_clearest_8 ms_X12_18 (Nat.le_of_ble_eq_true rfl) (zq_r0 (by omega) (by omega) (by omega)) ?_
  refine zm_lies ?_
  rw [show (decide (-1 ≤ i) && decide (i ≤ nI m - nI 1)) = zlw m i from rfl]
  refine at_if_neB (tgt := 16) dX12_clearest_11 (by decide) (fun c11 => ?_) (fun c11 => ?_)
  · have hp := ht c11
    have hi := zlw_t (by omega) c11
    have hk : ∀ g, (∀ j, j < 5 → g j = nI (j + 1)) → zq_At l G (zq_rm D 0 0) mX12_clearest (zq_QF G post 0 0) 38 [(0, .ref 70), (1, .int i)] [] n (zm_h (zsA σ 90 g) ρ) 0 0 := by
      intro g hg
      have hT : zTs (zm_si (zsA σ 90 g) 40 (-1)) m sd 0 (fun i => i + 1) (fun _ => 0) (0, fun _ => 0) := by
        refine ⟨?_, ?_, ?_, fun j hj => absurd hj (Nat.not_lt_zero _), zsi_s _ _ _, by show 0 ≤ 6; omega, fun h => absurd rfl h⟩
        · show (zsA σ 90 g).2.1 72 73 = _
          rw [zsA_o _ (by decide)]; exact hm
        · intro p y h1 h2 h3
          show (zsA σ 90 g).2.1 72 _ = _ ∧ _
          rw [zsA_o _ (by decide)]; exact hS p y h1 h2 h3
        · intro j hj
          show (zsA σ 90 g).2.1 90 _ = _ ∧ _
          rw [zsA_s, Nat.mul_zero, Nat.zero_add]
          exact ⟨hg j hj, by show 1 ≤ j + 1; omega, by show j + 1 ≤ 5; omega⟩
      refine at_aload_n dX12_clearest_38 rfl ?_
      refine at_iconst dX12_clearest_39 (v := -1) rfl ?_
      refine at_mput dX12_clearest_40 (pl_X12_440 _) (fun _ => ⟨_, rfl⟩) rfl rfl ?_
      refine at_aload_n dX12_clearest_43 rfl ?_
      refine at_iconst dX12_clearest_44 (v := nI 0) (by decide) ?_
      refine at_iconst dX12_clearest_45 (v := nI 0) (by decide) ?_
      refine at_callV2 (d := D - 1) dX12_clearest_46 mv_X12_443 rfl (Nat.le_of_ble_eq_true rfl) (zq_r0 (by omega) (by omega) (by omega)) ?_
      refine zm_triesOrder hm7 m 0 0 _ _ _ _ _ _ (Nat.zero_add m) (by decide) (by omega) hT (fun τ o1 o2 o3 o4 => ?_)
      have hE : zEs τ σ := zEs_t (zTo_Es o1) (zEs_i rfl (zEs_a rfl (zEs_r σ)))
      have hp := hp τ hE
      have o4 := o4 hne
      refine at_iload_n dX12_clearest_49 rfl ?_
      refine at_iconst dX12_clearest_50 (v := -1) rfl ?_
      refine at_icmp_ne (tgt := 61) dX12_clearest_51 (by decide) (fun c51 => ?_) (fun c51 => ?_)
      · rw [if_neg c51] at hp
        obtain ⟨j, hj, rfl⟩ := hi.resolve_left c51
        rw [nI_clamp (by omega)] at hp
        refine at_aload_n dX12_clearest_61 rfl ?_
        refine at_get dX12_clearest_62 fl_X12_107 rfl rfl ?_
        refine at_iload_n dX12_clearest_65 rfl ?_
        refine at_mald (a := 92) dX12_clearest_66 (by decide) (by decide) (by decide) (by decide) rfl rfl (by show _ < 7; omega) (by decide) ?_
        first | rw [o2] | rw [o4 j hj]
        refine at_iret dX12_clearest_67 rfl (by omega) (by omega) ?_
        exact hp
      · rw [if_pos c51] at hp
        refine at_aload_n dX12_clearest_54 rfl ?_
        skip
        refine at_get dX12_clearest_55 fl_X12_440 rfl rfl ?_
        refine at_goto (tgt := 67) dX12_clearest_58 (by decide) ?_
        first | rw [o2] | rw [o4 j hj]
        refine at_iret dX12_clearest_67 rfl (by omega) (by omega) ?_
        exact hp
    have h0 := zm_clearest_0 (l := l) (G := G) (D := D) (n := n) (ρ := ρ) hk 5 0 rfl (σ.2.1 90) (fun j hj => absurd hj (Nat.not_lt_zero _))
    rw [zsA_0] at h0
    refine at_iconst dX12_clearest_16 (v := nI 0) (by decide) ?_
    refine at_istore_n dX12_clearest_17 rfl (by decide) ?_
    exact h0
  · have hp := hf c11
    refine at_iconst dX12_clearest_14 (v := -1) rfl ?_
    refine at_iret dX12_clearest_15 rfl (by omega) (by omega) ?_
    exact hp
end ZL28

