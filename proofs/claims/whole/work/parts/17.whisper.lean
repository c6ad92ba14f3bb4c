/-! ===== the Model: what is said along the row, how likely one comes through ===== -/
/-- what each says on -/
def zSd (σ : zm_S) (m : Nat) (sd : Nat → Nat → Nat) : Prop := ∀ p y, p < m → 1 ≤ y → y ≤ 5 → σ.2.1 72 (20 + 5 * p + y - 1) = nI (sd p y) ∧ 1 ≤ sd p y ∧ sd p y ≤ 5
def zwh (w : Nat → Nat) (sd : Nat → Nat → Nat) : Nat → Nat → Nat → Nat
  | 0, _, y => y
  | k + 1, p, y => zwh w sd k (p + 1) (sd (w p) y)
def zfrF (W : Nat → Nat) (y : Nat) : Nat → Nat → Nat → Nat
  | 0, _, s => s
  | k + 1, u, s => zfrF W y k (u + 1) (s ||| (if W u = y then 2 ^ (u - 1) else 0))
theorem dX12_saysOn_0 : decode cX12_saysOn 0 = .ok (.aload_n 0, 1) := by decide +kernel
theorem dX12_saysOn_1 : decode cX12_saysOn 1 = .ok (.getfield 42, 3) := by decide +kernel
theorem dX12_saysOn_4 : decode cX12_saysOn 4 = .ok (.bipush 20, 2) := by decide +kernel
theorem dX12_saysOn_6 : decode cX12_saysOn 6 = .ok (.iconst 5, 1) := by decide +kernel
theorem dX12_saysOn_7 : decode cX12_saysOn 7 = .ok (.iload_n 1, 1) := by decide +kernel
theorem dX12_saysOn_8 : decode cX12_saysOn 8 = .ok (.imul, 1) := by decide +kernel
theorem dX12_saysOn_9 : decode cX12_saysOn 9 = .ok (.iadd, 1) := by decide +kernel
theorem dX12_saysOn_10 : decode cX12_saysOn 10 = .ok (.iload_n 2, 1) := by decide +kernel
theorem dX12_saysOn_11 : decode cX12_saysOn 11 = .ok (.iadd, 1) := by decide +kernel
theorem dX12_saysOn_12 : decode cX12_saysOn 12 = .ok (.iconst 1, 1) := by decide +kernel
theorem dX12_saysOn_13 : decode cX12_saysOn 13 = .ok (.isub, 1) := by decide +kernel
theorem dX12_saysOn_14 : decode cX12_saysOn 14 = .ok (.iaload, 1) := by decide +kernel
theorem dX12_saysOn_15 : decode cX12_saysOn 15 = .ok (.ireturn, 1) := by decide +kernel
abbrev mX12_saysOn : zq_M := (cX12_saysOn, RX12, "saysOn", (some .int), 3)
theorem dX12_whispered_0 : decode cX12_whispered 0 = .ok (.iload_n 1, 1) := by decide +kernel
theorem dX12_whispered_1 : decode cX12_whispered 1 = .ok (.istore_n 2, 1) := by decide +kernel
theorem dX12_whispered_2 : decode cX12_whispered 2 = .ok (.iconst 0, 1) := by decide +kernel
theorem dX12_whispered_3 : decode cX12_whispered 3 = .ok (.istore_n 3, 1) := by decide +kernel
theorem dX12_whispered_4 : decode cX12_whispered 4 = .ok (.iload_n 3, 1) := by decide +kernel
theorem dX12_whispered_5 : decode cX12_whispered 5 = .ok (.aload_n 0, 1) := by decide +kernel
theorem dX12_whispered_6 : decode cX12_whispered 6 = .ok (.invokevirtual 141, 3) := by decide +kernel
theorem dX12_whispered_9 : decode cX12_whispered 9 = .ok (.if_icmp .ge 24, 3) := by decide +kernel
theorem dX12_whispered_12 : decode cX12_whispered 12 = .ok (.aload_n 0, 1) := by decide +kernel
theorem dX12_whispered_13 : decode cX12_whispered 13 = .ok (.aload_n 0, 1) := by decide +kernel
theorem dX12_whispered_14 : decode cX12_whispered 14 = .ok (.getfield 42, 3) := by decide +kernel
theorem dX12_whispered_17 : decode cX12_whispered 17 = .ok (.bipush 7, 2) := by decide +kernel
theorem dX12_whispered_19 : decode cX12_whispered 19 = .ok (.iload_n 3, 1) := by decide +kernel
theorem dX12_whispered_20 : decode cX12_whispered 20 = .ok (.iadd, 1) := by decide +kernel
theorem dX12_whispered_21 : decode cX12_whispered 21 = .ok (.iaload, 1) := by decide +kernel
theorem dX12_whispered_22 : decode cX12_whispered 22 = .ok (.iload_n 2, 1) := by decide +kernel
theorem dX12_whispered_23 : decode cX12_whispered 23 = .ok (.invokevirtual 431, 3) := by decide +kernel
theorem dX12_whispered_26 : decode cX12_whispered 26 = .ok (.istore_n 2, 1) := by decide +kernel
theorem dX12_whispered_27 : decode cX12_whispered 27 = .ok (.iinc 3 1, 3) := by decide +kernel
theorem dX12_whispered_30 : decode cX12_whispered 30 = .ok (.goto (-26), 3) := by decide +kernel
theorem dX12_whispered_33 : decode cX12_whispered 33 = .ok (.iload_n 2, 1) := by decide +kernel
theorem dX12_whispered_34 : decode cX12_whispered 34 = .ok (.ireturn, 1) := by decide +kernel
abbrev mX12_whispered : zq_M := (cX12_whispered, RX12, "whispered", (some .int), 4)
theorem dX12_whisper_0 : decode cX12_whisper 0 = .ok (.iload_n 1, 1) := by decide +kernel
theorem dX12_whisper_1 : decode cX12_whisper 1 = .ok (.invokestatic 32, 3) := by decide +kernel
theorem dX12_whisper_4 : decode cX12_whisper 4 = .ok (.ifCond .eq 11, 3) := by decide +kernel
theorem dX12_whisper_7 : decode cX12_whisper 7 = .ok (.aload_n 0, 1) := by decide +kernel
theorem dX12_whisper_8 : decode cX12_whisper 8 = .ok (.iload_n 1, 1) := by decide +kernel
theorem dX12_whisper_9 : decode cX12_whisper 9 = .ok (.invokevirtual 434, 3) := by decide +kernel
theorem dX12_whisper_12 : decode cX12_whisper 12 = .ok (.goto 4, 3) := by decide +kernel
theorem dX12_whisper_15 : decode cX12_whisper 15 = .ok (.iconst (-1), 1) := by decide +kernel
theorem dX12_whisper_16 : decode cX12_whisper 16 = .ok (.ireturn, 1) := by decide +kernel
abbrev mX12_whisper : zq_M := (cX12_whisper, RX12, "whisper", (some .int), 2)
theorem dX12_from_0 : decode cX12_from 0 = .ok (.iload_n 1, 1) := by decide +kernel
theorem dX12_from_1 : decode cX12_from 1 = .ok (.invokestatic 32, 3) := by decide +kernel
theorem dX12_from_4 : decode cX12_from 4 = .ok (.ifCond .ne 5, 3) := by decide +kernel
theorem dX12_from_7 : decode cX12_from 7 = .ok (.iconst (-1), 1) := by decide +kernel
theorem dX12_from_8 : decode cX12_from 8 = .ok (.ireturn, 1) := by decide +kernel
theorem dX12_from_9 : decode cX12_from 9 = .ok (.iconst 0, 1) := by decide +kernel
theorem dX12_from_10 : decode cX12_from 10 = .ok (.istore_n 2, 1) := by decide +kernel
theorem dX12_from_11 : decode cX12_from 11 = .ok (.iconst 1, 1) := by decide +kernel
theorem dX12_from_12 : decode cX12_from 12 = .ok (.istore_n 3, 1) := by decide +kernel
theorem dX12_from_13 : decode cX12_from 13 = .ok (.iload_n 3, 1) := by decide +kernel
theorem dX12_from_14 : decode cX12_from 14 = .ok (.iconst 5, 1) := by decide +kernel
theorem dX12_from_15 : decode cX12_from 15 = .ok (.if_icmp .gt 30, 3) := by decide +kernel
theorem dX12_from_18 : decode cX12_from 18 = .ok (.iload_n 2, 1) := by decide +kernel
theorem dX12_from_19 : decode cX12_from 19 = .ok (.aload_n 0, 1) := by decide +kernel
theorem dX12_from_20 : decode cX12_from 20 = .ok (.iload_n 3, 1) := by decide +kernel
theorem dX12_from_21 : decode cX12_from 21 = .ok (.invokevirtual 434, 3) := by decide +kernel
theorem dX12_from_24 : decode cX12_from 24 = .ok (.iload_n 1, 1) := by decide +kernel
theorem dX12_from_25 : decode cX12_from 25 = .ok (.if_icmp .ne 11, 3) := by decide +kernel
theorem dX12_from_28 : decode cX12_from 28 = .ok (.iconst 1, 1) := by decide +kernel
theorem dX12_from_29 : decode cX12_from 29 = .ok (.iload_n 3, 1) := by decide +kernel
theorem dX12_from_30 : decode cX12_from 30 = .ok (.iconst 1, 1) := by decide +kernel
theorem dX12_from_31 : decode cX12_from 31 = .ok (.isub, 1) := by decide +kernel
theorem dX12_from_32 : decode cX12_from 32 = .ok (.ishl, 1) := by decide +kernel
theorem dX12_from_33 : decode cX12_from 33 = .ok (.goto 4, 3) := by decide +kernel
theorem dX12_from_36 : decode cX12_from 36 = .ok (.iconst 0, 1) := by decide +kernel
theorem dX12_from_37 : decode cX12_from 37 = .ok (.ior, 1) := by decide +kernel
theorem dX12_from_38 : decode cX12_from 38 = .ok (.istore_n 2, 1) := by decide +kernel
theorem dX12_from_39 : decode cX12_from 39 = .ok (.iinc 3 1, 3) := by decide +kernel
theorem dX12_from_42 : decode cX12_from 42 = .ok (.goto (-29), 3) := by decide +kernel
theorem dX12_from_45 : decode cX12_from 45 = .ok (.iload_n 2, 1) := by decide +kernel
theorem dX12_from_46 : decode cX12_from 46 = .ok (.ireturn, 1) := by decide +kernel
abbrev mX12_from : zq_M := (cX12_from, RX12, "from", (some .int), 4)
theorem dX12_comes_0 : decode cX12_comes 0 = .ok (.iload_n 1, 1) := by decide +kernel
theorem dX12_comes_1 : decode cX12_comes 1 = .ok (.iconst 1, 1) := by decide +kernel
theorem dX12_comes_2 : decode cX12_comes 2 = .ok (.bipush 20, 2) := by decide +kernel
theorem dX12_comes_4 : decode cX12_comes 4 = .ok (.invokestatic 18, 3) := by decide +kernel
theorem dX12_comes_7 : decode cX12_comes 7 = .ok (.ifCond .eq 13, 3) := by decide +kernel
theorem dX12_comes_10 : decode cX12_comes 10 = .ok (.iload_n 2, 1) := by decide +kernel
theorem dX12_comes_11 : decode cX12_comes 11 = .ok (.iconst 0, 1) := by decide +kernel
theorem dX12_comes_12 : decode cX12_comes 12 = .ok (.bipush 99, 2) := by decide +kernel
theorem dX12_comes_14 : decode cX12_comes 14 = .ok (.invokestatic 18, 3) := by decide +kernel
theorem dX12_comes_17 : decode cX12_comes 17 = .ok (.ifCond .ne 7, 3) := by decide +kernel
theorem dX12_comes_20 : decode cX12_comes 20 = .ok (.ldc2_w 446, 3) := by decide +kernel
theorem dX12_comes_23 : decode cX12_comes 23 = .ok (.lreturn, 1) := by decide +kernel
theorem dX12_comes_24 : decode cX12_comes 24 = .ok (.iconst 0, 1) := by decide +kernel
theorem dX12_comes_25 : decode cX12_comes 25 = .ok (.istore_n 3, 1) := by decide +kernel
theorem dX12_comes_26 : decode cX12_comes 26 = .ok (.iload_n 3, 1) := by decide +kernel
theorem dX12_comes_27 : decode cX12_comes 27 = .ok (.bipush 20, 2) := by decide +kernel
theorem dX12_comes_29 : decode cX12_comes 29 = .ok (.if_icmp .gt 26, 3) := by decide +kernel
theorem dX12_comes_32 : decode cX12_comes 32 = .ok (.aload_n 0, 1) := by decide +kernel
theorem dX12_comes_33 : decode cX12_comes 33 = .ok (.getfield 110, 3) := by decide +kernel
theorem dX12_comes_36 : decode cX12_comes 36 = .ok (.iload_n 3, 1) := by decide +kernel
theorem dX12_comes_37 : decode cX12_comes 37 = .ok (.iload_n 3, 1) := by decide +kernel
theorem dX12_comes_38 : decode cX12_comes 38 = .ok (.ifCond .ne 9, 3) := by decide +kernel
theorem dX12_comes_41 : decode cX12_comes 41 = .ok (.ldc2_w 448, 3) := by decide +kernel
theorem dX12_comes_44 : decode cX12_comes 44 = .ok (.goto 4, 3) := by decide +kernel
theorem dX12_comes_47 : decode cX12_comes 47 = .ok (.lconst 0, 1) := by decide +kernel
theorem dX12_comes_48 : decode cX12_comes 48 = .ok (.lastore, 1) := by decide +kernel
theorem dX12_comes_49 : decode cX12_comes 49 = .ok (.iinc 3 1, 3) := by decide +kernel
theorem dX12_comes_52 : decode cX12_comes 52 = .ok (.goto (-26), 3) := by decide +kernel
theorem dX12_comes_55 : decode cX12_comes 55 = .ok (.iconst 0, 1) := by decide +kernel
theorem dX12_comes_56 : decode cX12_comes 56 = .ok (.istore_n 3, 1) := by decide +kernel
theorem dX12_comes_57 : decode cX12_comes 57 = .ok (.iload_n 3, 1) := by decide +kernel
theorem dX12_comes_58 : decode cX12_comes 58 = .ok (.iload_n 2, 1) := by decide +kernel
theorem dX12_comes_59 : decode cX12_comes 59 = .ok (.if_icmp .ge 87, 3) := by decide +kernel
theorem dX12_comes_62 : decode cX12_comes 62 = .ok (.iload_n 1, 1) := by decide +kernel
theorem dX12_comes_63 : decode cX12_comes 63 = .ok (.iconst 1, 1) := by decide +kernel
theorem dX12_comes_64 : decode cX12_comes 64 = .ok (.isub, 1) := by decide +kernel
theorem dX12_comes_65 : decode cX12_comes 65 = .ok (.istore 4, 2) := by decide +kernel
theorem dX12_comes_67 : decode cX12_comes 67 = .ok (.iload 4, 2) := by decide +kernel
theorem dX12_comes_69 : decode cX12_comes 69 = .ok (.ifCond .lt 71, 3) := by decide +kernel
theorem dX12_comes_72 : decode cX12_comes 72 = .ok (.aload_n 0, 1) := by decide +kernel
theorem dX12_comes_73 : decode cX12_comes 73 = .ok (.getfield 110, 3) := by decide +kernel
theorem dX12_comes_76 : decode cX12_comes 76 = .ok (.iload 4, 2) := by decide +kernel
theorem dX12_comes_78 : decode cX12_comes 78 = .ok (.iconst 1, 1) := by decide +kernel
theorem dX12_comes_79 : decode cX12_comes 79 = .ok (.iadd, 1) := by decide +kernel
theorem dX12_comes_80 : decode cX12_comes 80 = .ok (.dup2, 1) := by decide +kernel
theorem dX12_comes_81 : decode cX12_comes 81 = .ok (.laload, 1) := by decide +kernel
theorem dX12_comes_82 : decode cX12_comes 82 = .ok (.aload_n 0, 1) := by decide +kernel
theorem dX12_comes_83 : decode cX12_comes 83 = .ok (.getfield 110, 3) := by decide +kernel
theorem dX12_comes_86 : decode cX12_comes 86 = .ok (.iload 4, 2) := by decide +kernel
theorem dX12_comes_88 : decode cX12_comes 88 = .ok (.laload, 1) := by decide +kernel
theorem dX12_comes_89 : decode cX12_comes 89 = .ok (.aload_n 0, 1) := by decide +kernel
theorem dX12_comes_90 : decode cX12_comes 90 = .ok (.getfield 42, 3) := by decide +kernel
theorem dX12_comes_93 : decode cX12_comes 93 = .ok (.bipush 71, 2) := by decide +kernel
theorem dX12_comes_95 : decode cX12_comes 95 = .ok (.iaload, 1) := by decide +kernel
theorem dX12_comes_96 : decode cX12_comes 96 = .ok (.i2l, 1) := by decide +kernel
theorem dX12_comes_97 : decode cX12_comes 97 = .ok (.lmul, 1) := by decide +kernel
theorem dX12_comes_98 : decode cX12_comes 98 = .ok (.ldc2_w 450, 3) := by decide +kernel
theorem dX12_comes_101 : decode cX12_comes 101 = .ok (.ldiv, 1) := by decide +kernel
theorem dX12_comes_102 : decode cX12_comes 102 = .ok (.ladd, 1) := by decide +kernel
theorem dX12_comes_103 : decode cX12_comes 103 = .ok (.lastore, 1) := by decide +kernel
theorem dX12_comes_104 : decode cX12_comes 104 = .ok (.aload_n 0, 1) := by decide +kernel
theorem dX12_comes_105 : decode cX12_comes 105 = .ok (.getfield 110, 3) := by decide +kernel
theorem dX12_comes_108 : decode cX12_comes 108 = .ok (.iload 4, 2) := by decide +kernel
theorem dX12_comes_110 : decode cX12_comes 110 = .ok (.aload_n 0, 1) := by decide +kernel
theorem dX12_comes_111 : decode cX12_comes 111 = .ok (.getfield 110, 3) := by decide +kernel
theorem dX12_comes_114 : decode cX12_comes 114 = .ok (.iload 4, 2) := by decide +kernel
theorem dX12_comes_116 : decode cX12_comes 116 = .ok (.laload, 1) := by decide +kernel
theorem dX12_comes_117 : decode cX12_comes 117 = .ok (.bipush 10, 2) := by decide +kernel
theorem dX12_comes_119 : decode cX12_comes 119 = .ok (.aload_n 0, 1) := by decide +kernel
theorem dX12_comes_120 : decode cX12_comes 120 = .ok (.getfield 42, 3) := by decide +kernel
theorem dX12_comes_123 : decode cX12_comes 123 = .ok (.bipush 71, 2) := by decide +kernel
theorem dX12_comes_125 : decode cX12_comes 125 = .ok (.iaload, 1) := by decide +kernel
theorem dX12_comes_126 : decode cX12_comes 126 = .ok (.isub, 1) := by decide +kernel
theorem dX12_comes_127 : decode cX12_comes 127 = .ok (.i2l, 1) := by decide +kernel
theorem dX12_comes_128 : decode cX12_comes 128 = .ok (.lmul, 1) := by decide +kernel
theorem dX12_comes_129 : decode cX12_comes 129 = .ok (.ldc2_w 450, 3) := by decide +kernel
theorem dX12_comes_132 : decode cX12_comes 132 = .ok (.ldiv, 1) := by decide +kernel
theorem dX12_comes_133 : decode cX12_comes 133 = .ok (.lastore, 1) := by decide +kernel
theorem dX12_comes_134 : decode cX12_comes 134 = .ok (.iinc 4 (-1), 3) := by decide +kernel
theorem dX12_comes_137 : decode cX12_comes 137 = .ok (.goto (-70), 3) := by decide +kernel
theorem dX12_comes_140 : decode cX12_comes 140 = .ok (.iinc 3 1, 3) := by decide +kernel
theorem dX12_comes_143 : decode cX12_comes 143 = .ok (.goto (-86), 3) := by decide +kernel
theorem dX12_comes_146 : decode cX12_comes 146 = .ok (.lconst 0, 1) := by decide +kernel
theorem dX12_comes_147 : decode cX12_comes 147 = .ok (.lstore_n 3, 1) := by decide +kernel
theorem dX12_comes_148 : decode cX12_comes 148 = .ok (.iconst 0, 1) := by decide +kernel
theorem dX12_comes_149 : decode cX12_comes 149 = .ok (.istore 5, 2) := by decide +kernel
theorem dX12_comes_151 : decode cX12_comes 151 = .ok (.iload 5, 2) := by decide +kernel
theorem dX12_comes_153 : decode cX12_comes 153 = .ok (.iload_n 1, 1) := by decide +kernel
theorem dX12_comes_154 : decode cX12_comes 154 = .ok (.if_icmp .ge 19, 3) := by decide +kernel
theorem dX12_comes_157 : decode cX12_comes 157 = .ok (.lload_n 3, 1) := by decide +kernel
theorem dX12_comes_158 : decode cX12_comes 158 = .ok (.aload_n 0, 1) := by decide +kernel
theorem dX12_comes_159 : decode cX12_comes 159 = .ok (.getfield 110, 3) := by decide +kernel
theorem dX12_comes_162 : decode cX12_comes 162 = .ok (.iload 5, 2) := by decide +kernel
theorem dX12_comes_164 : decode cX12_comes 164 = .ok (.laload, 1) := by decide +kernel
theorem dX12_comes_165 : decode cX12_comes 165 = .ok (.ladd, 1) := by decide +kernel
theorem dX12_comes_166 : decode cX12_comes 166 = .ok (.lstore_n 3, 1) := by decide +kernel
theorem dX12_comes_167 : decode cX12_comes 167 = .ok (.iinc 5 1, 3) := by decide +kernel
theorem dX12_comes_170 : decode cX12_comes 170 = .ok (.goto (-19), 3) := by decide +kernel
theorem dX12_comes_173 : decode cX12_comes 173 = .ok (.lload_n 3, 1) := by decide +kernel
theorem dX12_comes_174 : decode cX12_comes 174 = .ok (.lreturn, 1) := by decide +kernel
abbrev mX12_comes : zq_M := (cX12_comes, RX12, "comes", (some .long), 6)
section ZL8
variable {l : Launch} {G : zq_G} {D n m : Nat} {σ : zm_S} {ρ : Nat → zq_E} {post : Option Value → Nat → (Nat → zq_E) → Prop} {x w rk : Nat → Nat} {sd : Nat → Nat → Nat}
theorem zm_saysOn {p y : Nat} (h7 : p < 7) (h1 : 1 ≤ y) (h5 : y ≤ 5) (hp : post (some (.int (σ.2.1 72 (20 + 5 * p + y - 1)))) n (zm_h σ ρ)) : zq_Runs l G D 0 0 yX12_saysOn [.ref 70, .int (nI p), .int (nI y)] n (zm_h σ ρ) post := by
  refine zq_enter (cc := cX12_saysOn) (nL := 3) (ret := (some .int)) cw_X12_saysOn (by decide) rfl (Nat.le_of_ble_eq_true rfl) ?_
  refine at_aload_n dX12_saysOn_0 rfl ?_
  refine at_get dX12_saysOn_1 fl_X12_42 rfl rfl ?_
  refine at_bipush dX12_saysOn_4 (v := nI 20) (by decide) ?_
  refine at_iconst dX12_saysOn_6 (v := nI 5) (by decide) ?_
  refine at_iload_n dX12_saysOn_7 rfl ?_
  refine at_imulN dX12_saysOn_8 ?_
  refine at_iaddN dX12_saysOn_9 ?_
  refine at_iload_n dX12_saysOn_10 rfl ?_
  refine at_iaddN dX12_saysOn_11 ?_
  refine at_iconst dX12_saysOn_12 (v := nI 1) (by decide) ?_
  refine at_isubN dX12_saysOn_13 (by omega) ?_
  refine at_mald (a := 72) dX12_saysOn_14 (by decide) (by decide) (by decide) (by decide) rfl rfl (by show _ < 5684; omega) (by decide) ?_
  refine at_iret dX12_saysOn_15 rfl (by omega) (by omega) ?_
  exact hp
theorem zwh_in {w : Nat → Nat} (hS : zSd σ m sd) (hw : ∀ k, k < m → w k < m) : ∀ k p y, p + k ≤ m → 1 ≤ y → y ≤ 5 → 1 ≤ zwh w sd k p y ∧ zwh w sd k p y ≤ 5
  | 0, _, _, _, h1, h5 => ⟨h1, h5⟩
  | k + 1, p, y, hk, h1, h5 => by
    obtain ⟨-, e1, e2⟩ := hS (w p) y (hw p (by omega)) h1 h5
    exact zwh_in hS hw k (p + 1) _ (by omega) e1 e2
theorem zm_whispered_loop {v : Int32} (hD : 1 ≤ D) (hC : zC σ m x w rk) (hS : zSd σ m sd) : ∀ k p y : Nat, p + k = m → 1 ≤ y → y ≤ 5 → post (some (.int (nI (zwh w sd k p y)))) n (zm_h σ ρ) → zq_At l G (zq_rm D 0 0) mX12_whispered (zq_QF G post 0 0) 4 [(0, .ref 70), (1, .int v), (2, .int (nI y)), (3, .int (nI p))] [] n (zm_h σ ρ) 0 0 := by
  have hm := hC.1
  have hm7 := hC.2.1
  intro k
  induction k with
  | zero =>
    intro p y hi h1 h5 hp
    obtain rfl : p = m := hi
    refine at_iload_n dX12_whispered_4 rfl ?_
    refine at_aload_n dX12_whispered_5 rfl ?_
    refine at_callV0 (d := D - 1) dX12_whispered_6 mv_X12_141 rfl (Nat.le_of_ble_eq_true rfl) (zq_r0 (by omega) (by omega) (by omega)) ?_
    refine zm_many hm ?_
    refine at_geN (tgt := 33) dX12_whispered_9 (by decide) (by omega) (by omega) (fun c9 => ?_) (fun c9 => ?_)
    · refine at_iload_n dX12_whispered_33 rfl ?_
      refine at_iret dX12_whispered_34 rfl (by omega) (by omega) ?_
      exact hp
    · omega
  | succ k ih =>
    intro p y hi h1 h5 hp
    obtain ⟨a1, a2⟩ := hC.2.2.2.1 p (by omega)
    obtain ⟨e0, e1, e2⟩ := hS (w p) y a2 h1 h5
    refine at_iload_n dX12_whispered_4 rfl ?_
    refine at_aload_n dX12_whispered_5 rfl ?_
    refine at_callV0 (d := D - 1) dX12_whispered_6 mv_X12_141 rfl (Nat.le_of_ble_eq_true rfl) (zq_r0 (by omega) (by omega) (by omega)) ?_
    refine zm_many hm ?_
    refine at_geN (tgt := 33) dX12_whispered_9 (by decide) (by omega) (by omega) (fun c9 => ?_) (fun c9 => ?_)
    · omega
    · refine at_aload_n dX12_whispered_12 rfl ?_
      refine at_aload_n dX12_whispered_13 rfl ?_
      refine at_get dX12_whispered_14 fl_X12_42 rfl rfl ?_
      refine at_bipush dX12_whispered_17 (v := nI 7) (by decide) ?_
      refine at_iload_n dX12_whispered_19 rfl ?_
      refine at_iaddN dX12_whispered_20 ?_
      refine at_mald (a := 72) dX12_whispered_21 (by decide) (by decide) (by decide) (by decide) rfl rfl (by show _ < 5684; omega) (by decide) ?_
      rw [a1]
      refine at_iload_n dX12_whispered_22 rfl ?_
      refine at_callV2 (d := D - 1) dX12_whispered_23 mv_X12_431 rfl (Nat.le_of_ble_eq_true rfl) (zq_r0 (by omega) (by omega) (by omega)) ?_
      refine zm_saysOn (by omega) (by omega) (by omega) ?_
      rw [e0]
      refine at_istore_n dX12_whispered_26 rfl (by decide) ?_
      refine at_iincN dX12_whispered_27 rfl (by decide) ?_
      refine at_goto (tgt := 4) dX12_whispered_30 (by decide) ?_
      exact ih (p + 1) (sd (w p) y) (by omega) e1 e2 hp
theorem zm_whispered {y : Nat} (hD : 2 ≤ D) (hC : zC σ m x w rk) (hS : zSd σ m sd) (h1 : 1 ≤ y) (h5 : y ≤ 5) (hp : post (some (.int (nI (zwh w sd m 0 y)))) n (zm_h σ ρ)) : zq_Runs l G D 0 0 yX12_whispered [.ref 70, .int (nI y)] n (zm_h σ ρ) post := by
  refine zq_enter (cc := cX12_whispered) (nL := 4) (ret := (some .int)) cw_X12_whispered (by decide) rfl (Nat.le_of_ble_eq_true rfl) ?_
  refine at_iload_n dX12_whispered_0 rfl ?_
  refine at_istore_n dX12_whispered_1 rfl (by decide) ?_
  refine at_iconst dX12_whispered_2 (v := nI 0) (by decide) ?_
  refine at_istore_n dX12_whispered_3 rfl (by decide) ?_
  exact zm_whispered_loop (by omega) hC hS m 0 y (Nat.zero_add _) h1 h5 hp
theorem zm_whisper {v : Int32} (hD : 3 ≤ D) (hC : zC σ m x w rk) (hS : zSd σ m sd) (hf : (decide (nI 1 ≤ v) && decide (v ≤ nI 5)) = false → post (some (.int (-1))) n (zm_h σ ρ)) (ht : ∀ y, 1 ≤ y → y ≤ 5 → v = nI y → post (some (.int (nI (zwh w sd m 0 y)))) n (zm_h σ ρ)) : zq_Runs l G D 0 0 yX12_whisper [.ref 70, .int v] n (zm_h σ ρ) post := by
  refine zq_enter (cc := cX12_whisper) (nL := 2) (ret := (some .int)) cw_X12_whisper (by decide) rfl (Nat.le_of_ble_eq_true rfl) ?_
  refine at_iload_n dX12_whisper_0 rfl ?_
  refine at_callS1 (d := D - 1) dX12_whisper_1 ms_X12_32 (Nat.le_of_ble_eq_true rfl) (zq_r0 (by omega) (by omega) (by omega)) ?_
  refine zm_isLetter (by omega) ?_
  refine at_if_eqB (tgt := 15) dX12_whisper_4 (by decide) (fun c4 => ?_) (fun c4 => ?_)
  · have hp := hf c4
    refine at_iconst dX12_whisper_15 (v := -1) rfl ?_
    refine at_iret dX12_whisper_16 rfl (by omega) (by omega) ?_
    exact hp
  · obtain ⟨y, h1, h5, rfl⟩ := zlies_n (by decide) (by decide) c4
    have hp := ht y h1 h5 rfl
    refine at_aload_n dX12_whisper_7 rfl ?_
    refine at_iload_n dX12_whisper_8 rfl ?_
    refine at_callV1 (d := D - 1) dX12_whisper_9 mv_X12_434 rfl (Nat.le_of_ble_eq_true rfl) (zq_r0 (by omega) (by omega) (by omega)) ?_
    refine zm_whispered (by omega) hC hS h1 h5 ?_
    refine at_goto (tgt := 16) dX12_whisper_12 (by decide) ?_
    refine at_iret dX12_whisper_16 rfl (by omega) (by omega) ?_
    exact hp
theorem zm_from_loop {y : Nat} (hD : 3 ≤ D) (hC : zC σ m x w rk) (hS : zSd σ m sd) (hy : y < 2147483648) : ∀ k u s : Nat, u + k = 6 → 1 ≤ u → post (some (.int (nI (zfrF (zwh w sd m 0) y k u s)))) n (zm_h σ ρ) → zq_At l G (zq_rm D 0 0) mX12_from (zq_QF G post 0 0) 13 [(0, .ref 70), (1, .int (nI y)), (2, .int (nI s)), (3, .int (nI u))] [] n (zm_h σ ρ) 0 0 := by
  intro k
  induction k with
  | zero =>
    intro u s hu h1 hp
    obtain rfl : u = 6 := hu
    refine at_iload_n dX12_from_13 rfl ?_
    refine at_iconst dX12_from_14 (v := nI 5) (by decide) ?_
    refine at_gtN (tgt := 45) dX12_from_15 (by decide) (by omega) (by omega) (fun c15 => ?_) (fun c15 => ?_)
    · refine at_iload_n dX12_from_45 rfl ?_
      refine at_iret dX12_from_46 rfl (by omega) (by omega) ?_
      exact hp
    · omega
  | succ k ih =>
    intro u s hu h1 hp
    have hin := zwh_in hS (fun k hk => (hC.2.2.2.1 k hk).2) m 0 u (by omega) h1 (by omega)
    unfold zfrF at hp
    refine at_iload_n dX12_from_13 rfl ?_
    refine at_iconst dX12_from_14 (v := nI 5) (by decide) ?_
    refine at_gtN (tgt := 45) dX12_from_15 (by decide) (by omega) (by omega) (fun c15 => ?_) (fun c15 => ?_)
    · omega
    · refine at_iload_n dX12_from_18 rfl ?_
      refine at_aload_n dX12_from_19 rfl ?_
      refine at_iload_n dX12_from_20 rfl ?_
      refine at_callV1 (d := D - 1) dX12_from_21 mv_X12_434 rfl (Nat.le_of_ble_eq_true rfl) (zq_r0 (by omega) (by omega) (by omega)) ?_
      refine zm_whispered (by omega) hC hS h1 (by omega) ?_
      refine at_iload_n dX12_from_24 rfl ?_
      refine at_neN (tgt := 36) dX12_from_25 (by decide) (by omega) (by omega) (fun c25 => ?_) (fun c25 => ?_)
      · rw [if_neg c25] at hp
        refine at_iconst dX12_from_36 (v := nI 0) (by decide) ?_
        try rw [zshl1 (by omega)]
        refine at_ior dX12_from_37 ?_
        rw [zor]
        refine at_istore_n dX12_from_38 rfl (by decide) ?_
        refine at_iincN dX12_from_39 rfl (by decide) ?_
        refine at_goto (tgt := 13) dX12_from_42 (by decide) ?_
        exact ih (u + 1) _ (by omega) (by omega) hp
      · rw [if_pos c25] at hp
        refine at_iconst dX12_from_28 (v := nI 1) (by decide) ?_
        refine at_iload_n dX12_from_29 rfl ?_
        refine at_iconst dX12_from_30 (v := nI 1) (by decide) ?_
        refine at_isubN dX12_from_31 (by omega) ?_
        refine at_ishl dX12_from_32 ?_
        refine at_goto (tgt := 37) dX12_from_33 (by decide) ?_
        try rw [zshl1 (by omega)]
        refine at_ior dX12_from_37 ?_
        rw [zor]
        refine at_istore_n dX12_from_38 rfl (by decide) ?_
        refine at_iincN dX12_from_39 rfl (by decide) ?_
        refine at_goto (tgt := 13) dX12_from_42 (by decide) ?_
        exact ih (u + 1) _ (by omega) (by omega) hp
theorem zm_from {v : Int32} (hD : 4 ≤ D) (hC : zC σ m x w rk) (hS : zSd σ m sd) (hf : (decide (nI 1 ≤ v) && decide (v ≤ nI 5)) = false → post (some (.int (-1))) n (zm_h σ ρ)) (ht : ∀ y, 1 ≤ y → y ≤ 5 → v = nI y → post (some (.int (nI (zfrF (zwh w sd m 0) y 5 1 0)))) n (zm_h σ ρ)) : zq_Runs l G D 0 0 yX12_from [.ref 70, .int v] n (zm_h σ ρ) post := by
  refine zq_enter (cc := cX12_from) (nL := 4) (ret := (some .int)) cw_X12_from (by decide) rfl (Nat.le_of_ble_eq_true rfl) ?_
  refine at_iload_n dX12_from_0 rfl ?_
  refine at_callS1 (d := D - 1) dX12_from_1 ms_X12_32 (Nat.le_of_ble_eq_true rfl) (zq_r0 (by omega) (by omega) (by omega)) ?_
  refine zm_isLetter (by omega) ?_
  refine at_if_neB (tgt := 9) dX12_from_4 (by decide) (fun c4 => ?_) (fun c4 => ?_)
  · obtain ⟨y, h1, h5, rfl⟩ := zlies_n (by decide) (by decide) c4
    have hp := ht y h1 h5 rfl
    refine at_iconst dX12_from_9 (v := nI 0) (by decide) ?_
    refine at_istore_n dX12_from_10 rfl (by decide) ?_
    refine at_iconst dX12_from_11 (v := nI 1) (by decide) ?_
    refine at_istore_n dX12_from_12 rfl (by decide) ?_
    exact zm_from_loop (by omega) hC hS (by omega) 5 1 0 rfl (Nat.le_refl _) hp
  · have hp := hf c4
    refine at_iconst dX12_from_7 (v := -1) rfl ?_
    refine at_iret dX12_from_8 rfl (by omega) (by omega) ?_
    exact hp
/-- one step of chances: those who had not slipped so often, and those who slip now -/
def zcs (S : Int32) (f : Nat → Int64) : Nat → Int64
  | 0 => f 0 * (nI 10 - S).toInt64 / 10
  | j + 1 => f (j + 1) * (nI 10 - S).toInt64 / 10 + f j * S.toInt64 / 10
def zcit (S : Int32) : Nat → Nat → Int64
  | 0 => fun j => if j = 0 then 1000000000000 else 0
  | t + 1 => zcs S (zcit S t)
def zcsum (f : Nat → Int64) : Nat → Int64
  | 0 => 0
  | k + 1 => zcsum f k + f k
/-- the Model's row of chances -/
def zsL (σ : zm_S) (g : Nat → Int64) : zm_S := (σ.1, σ.2.1, va_up σ.2.2 0 g)
theorem zsL_s (σ : zm_S) (g : Nat → Int64) : (zsL σ g).2.2 0 = g := by simp [zsL, va_up]
theorem zsL_a (σ : zm_S) (g : Nat → Int64) (i : Nat) (v : Int64) : zm_sl (zsL σ g) 0 i v = zsL σ (vp_updL g i v) := by
  show (σ.1, σ.2.1, va_up (va_up σ.2.2 0 g) 0 (vp_updL (va_up σ.2.2 0 g 0) i v)) = _
  rw [bx_uu, va_up_self]
  rfl
theorem zsL_0 (σ : zm_S) : zsL σ (σ.2.2 0) = σ := by
  show (σ.1, σ.2.1, va_up σ.2.2 0 (σ.2.2 0)) = σ
  rw [show va_up σ.2.2 0 (σ.2.2 0) = σ.2.2 by funext b; by_cases h : b = 0 <;> simp [va_up, h]]
theorem updL_s (g : Nat → Int64) (i : Nat) (v : Int64) : vp_updL g i v i = v := by simp [vp_updL]
theorem updL_o (g : Nat → Int64) {i j : Nat} (h : j ≠ i) (v : Int64) : vp_updL g i v j = g j := by simp [vp_updL, h]
theorem zm_comes_0 {a b : Nat} (hk : ∀ g : Nat → Int64, (∀ j, j ≤ 20 → g j = if j = 0 then 1000000000000 else 0) → zq_At l G (zq_rm D 0 0) mX12_comes (zq_QF G post 0 0) 55 [(0, .ref 70), (1, .int (nI a)), (2, .int (nI b)), (3, .int (nI 21))] [] n (zm_h (zsL σ g) ρ) 0 0) : ∀ (k i : Nat) (g : Nat → Int64), i + k = 21 → (∀ j, j < i → g j = if j = 0 then 1000000000000 else 0) → zq_At l G (zq_rm D 0 0) mX12_comes (zq_QF G post 0 0) 26 [(0, .ref 70), (1, .int (nI a)), (2, .int (nI b)), (3, .int (nI i))] [] n (zm_h (zsL σ g) ρ) 0 0 := by
  intro k
  induction k with
  | zero =>
    intro i g hi hg
    obtain rfl : i = 21 := hi
    refine at_iload_n dX12_comes_26 rfl ?_
    refine at_bipush dX12_comes_27 (v := nI 20) (by decide) ?_
    refine at_gtN (tgt := 55) dX12_comes_29 (by decide) (by omega) (by omega) (fun c29 => ?_) (fun c29 => ?_)
    · exact hk g (fun j hj => hg j (by omega))
    · omega
  | succ k ih =>
    intro i g hi hg
    refine at_iload_n dX12_comes_26 rfl ?_
    refine at_bipush dX12_comes_27 (v := nI 20) (by decide) ?_
    refine at_gtN (tgt := 55) dX12_comes_29 (by decide) (by omega) (by omega) (fun c29 => ?_) (fun c29 => ?_)
    · omega
    · refine at_aload_n dX12_comes_32 rfl ?_
      refine at_get dX12_comes_33 fl_X12_110 rfl rfl ?_
      refine at_iload_n dX12_comes_36 rfl ?_
      refine at_iload_n dX12_comes_37 rfl ?_
      refine at_if_neN (tgt := 47) dX12_comes_38 (by decide) (by omega) (fun c38 => ?_) (fun c38 => ?_)
      · have hv : (0 : Int64) = if i = 0 then 1000000000000 else 0 := by rw [if_neg c38]
        refine at_lconst dX12_comes_47 (v := 0) rfl ?_
        refine at_ml0st dX12_comes_48 rfl (by omega) ?_
        rw [zsL_a]
        refine at_iincN dX12_comes_49 rfl (by decide) ?_
        refine at_goto (tgt := 26) dX12_comes_52 (by decide) ?_
        refine ih (i + 1) _ (by omega) (fun j hj => ?_)
        by_cases e : j = i
        · subst e; rw [updL_s]; exact hv
        · rw [updL_o _ e]; exact hg j (by omega)
      · have hv : (1000000000000 : Int64) = if i = 0 then 1000000000000 else 0 := by rw [if_pos c38]
        refine at_ldc2 dX12_comes_41 kl_X12_448 ?_
        refine at_goto (tgt := 48) dX12_comes_44 (by decide) ?_
        refine at_ml0st dX12_comes_48 rfl (by omega) ?_
        rw [zsL_a]
        refine at_iincN dX12_comes_49 rfl (by decide) ?_
        refine at_goto (tgt := 26) dX12_comes_52 (by decide) ?_
        refine ih (i + 1) _ (by omega) (fun j hj => ?_)
        by_cases e : j = i
        · subst e; rw [updL_s]; exact hv
        · rw [updL_o _ e]; exact hg j (by omega)
/-- within a step: places at and above i are new but that at i, which is scaled alone; those below are old -/
theorem zm_comes_1 {a b t : Nat} {f : Nat → Int64} (ha1 : 1 ≤ a) (ha : a ≤ 20) (hk : ∀ g : Nat → Int64, (∀ j, j < a → g j = zcs (σ.2.1 72 71) f j) → zq_At l G (zq_rm D 0 0) mX12_comes (zq_QF G post 0 0) 140 [(0, .ref 70), (1, .int (nI a)), (2, .int (nI b)), (3, .int (nI t))] [] n (zm_h (zsL σ g) ρ) 0 0) : ∀ (i : Nat) (g : Nat → Int64), i ≤ a → (∀ j, j < i → g j = f j) → (i < a → g i = f i * (nI 10 - σ.2.1 72 71).toInt64 / 10) → (∀ j, i < j → j < a → g j = zcs (σ.2.1 72 71) f j) → zq_At l G (zq_rm D 0 0) mX12_comes (zq_QF G post 0 0) 67 [(0, .ref 70), (1, .int (nI a)), (2, .int (nI b)), (3, .int (nI t)), (4, .int (nI i - 1))] [] n (zm_h (zsL σ g) ρ) 0 0 := by
  intro i
  induction i with
  | zero =>
    intro g hi h1 h2 h3
    refine at_iload dX12_comes_67 rfl ?_
    refine at_if_lt (tgt := 140) dX12_comes_69 (by decide) (fun c69 => ?_) (fun c69 => ?_)
    · refine at_lv [0, 1, 2, 3] (hk g (fun j hj => ?_))
      cases j with
      | zero => rw [h2 (by omega)]; rfl
      | succ j => exact h3 (j + 1) (by omega) hj
    · exact absurd (by decide) c69
  | succ i ih =>
    intro g hi h1 h2 h3
    rw [nI_pred]
    refine at_iload dX12_comes_67 rfl ?_
    refine at_if_lt (tgt := 140) dX12_comes_69 (by decide) (fun c69 => ?_) (fun c69 => ?_)
    · exact absurd c69 (nI_pos (by omega))
    · refine at_aload_n dX12_comes_72 rfl ?_
      refine at_get dX12_comes_73 fl_X12_110 rfl rfl ?_
      refine at_iload dX12_comes_76 rfl ?_
      refine at_iconst dX12_comes_78 (v := nI 1) (by decide) ?_
      refine at_iaddN dX12_comes_79 ?_
      refine at_dup2 dX12_comes_80 rfl rfl ?_
      refine at_ml0ld dX12_comes_81 rfl (by omega) ?_
      rw [zsL_s]
      refine at_aload_n dX12_comes_82 rfl ?_
      refine at_get dX12_comes_83 fl_X12_110 rfl rfl ?_
      refine at_iload dX12_comes_86 rfl ?_
      refine at_ml0ld dX12_comes_88 rfl (by omega) ?_
      rw [zsL_s]
      refine at_aload_n dX12_comes_89 rfl ?_
      refine at_get dX12_comes_90 fl_X12_42 rfl rfl ?_
      refine at_bipush dX12_comes_93 (v := nI 71) (by decide) ?_
      refine at_mald (a := 72) dX12_comes_95 (by decide) (by decide) (by decide) (by decide) rfl rfl (by show _ < 5684; omega) (by decide) ?_
      refine at_i2l dX12_comes_96 ?_
      refine at_lmul dX12_comes_97 ?_
      refine at_ldc2 dX12_comes_98 kl_X12_450 ?_
      refine at_ldiv dX12_comes_101 (by decide) ?_
      refine at_ladd dX12_comes_102 ?_
      refine at_ml0st dX12_comes_103 rfl (by omega) ?_
      rw [zsL_a]
      refine at_aload_n dX12_comes_104 rfl ?_
      refine at_get dX12_comes_105 fl_X12_110 rfl rfl ?_
      refine at_iload dX12_comes_108 rfl ?_
      refine at_aload_n dX12_comes_110 rfl ?_
      refine at_get dX12_comes_111 fl_X12_110 rfl rfl ?_
      refine at_iload dX12_comes_114 rfl ?_
      refine at_ml0ld dX12_comes_116 rfl (by omega) ?_
      rw [zsL_s, updL_o _ (by omega), h1 i (by omega)]
      refine at_bipush dX12_comes_117 (v := nI 10) (by decide) ?_
      refine at_aload_n dX12_comes_119 rfl ?_
      refine at_get dX12_comes_120 fl_X12_42 rfl rfl ?_
      refine at_bipush dX12_comes_123 (v := nI 71) (by decide) ?_
      refine at_mald (a := 72) dX12_comes_125 (by decide) (by decide) (by decide) (by decide) rfl rfl (by show _ < 5684; omega) (by decide) ?_
      refine at_isub dX12_comes_126 ?_
      refine at_i2l dX12_comes_127 ?_
      refine at_lmul dX12_comes_128 ?_
      refine at_ldc2 dX12_comes_129 kl_X12_450 ?_
      refine at_ldiv dX12_comes_132 (by decide) ?_
      refine at_ml0st dX12_comes_133 rfl (by omega) ?_
      rw [zsL_a]
      refine at_iinc dX12_comes_134 rfl rfl (by decide) ?_
      rw [show nI i + Int32.ofInt (-1) = nI i - 1 from (by rw [Int32.sub_eq_add_neg]; rfl)]
      refine at_goto (tgt := 67) dX12_comes_137 (by decide) ?_
      refine ih _ (by omega) (fun j hj => ?_) (fun _ => ?_) (fun j hj hja => ?_)
      · rw [updL_o _ (by omega), updL_o _ (by omega)]; exact h1 j (by omega)
      · rw [updL_s]; rfl
      · rw [updL_o _ (by omega)]
        by_cases e : j = i + 1
        · subst e
          rw [updL_s, h2 hja]
          rfl
        · rw [updL_o _ e]; exact h3 j (by omega) hja
theorem zm_comes_2 {a b : Nat} (ha1 : 1 ≤ a) (ha : a ≤ 20) (hb : b ≤ 99) (hk : ∀ g : Nat → Int64, (∀ j, j < a → g j = zcit (σ.2.1 72 71) b j) → zq_At l G (zq_rm D 0 0) mX12_comes (zq_QF G post 0 0) 146 [(0, .ref 70), (1, .int (nI a)), (2, .int (nI b)), (3, .int (nI b))] [] n (zm_h (zsL σ g) ρ) 0 0) : ∀ (k t : Nat) (g : Nat → Int64), t + k = b → (∀ j, j < a → g j = zcit (σ.2.1 72 71) t j) → zq_At l G (zq_rm D 0 0) mX12_comes (zq_QF G post 0 0) 57 [(0, .ref 70), (1, .int (nI a)), (2, .int (nI b)), (3, .int (nI t))] [] n (zm_h (zsL σ g) ρ) 0 0 := by
  intro k
  induction k with
  | zero =>
    intro t g ht hg
    obtain rfl : t = b := ht
    refine at_iload_n dX12_comes_57 rfl ?_
    refine at_iload_n dX12_comes_58 rfl ?_
    refine at_geN (tgt := 146) dX12_comes_59 (by decide) (by omega) (by omega) (fun c59 => ?_) (fun c59 => ?_)
    · exact hk g hg
    · omega
  | succ k ih =>
    intro t g ht hg
    refine at_iload_n dX12_comes_57 rfl ?_
    refine at_iload_n dX12_comes_58 rfl ?_
    refine at_geN (tgt := 146) dX12_comes_59 (by decide) (by omega) (by omega) (fun c59 => ?_) (fun c59 => ?_)
    · omega
    · refine at_iload_n dX12_comes_62 rfl ?_
      refine at_iconst dX12_comes_63 (v := nI 1) (by decide) ?_
      refine at_isub dX12_comes_64 ?_
      refine at_istore dX12_comes_65 (by decide) ?_
      refine zm_comes_1 (f := g) ha1 ha (fun g2 hg2 => ?_) a g (Nat.le_refl _) (fun _ _ => rfl) (fun h => absurd h (Nat.lt_irrefl _)) (fun j h1 h2 => by omega)
      have hn := ih (t + 1) g2 (by omega) (fun j hj => by
        rw [hg2 j hj]
        cases j with
        | zero => show g 0 * _ / 10 = zcit _ t 0 * _ / 10; rw [hg 0 hj]
        | succ j => show g (j + 1) * _ / 10 + g j * _ / 10 = zcit _ t (j + 1) * _ / 10 + zcit _ t j * _ / 10; rw [hg (j + 1) hj, hg j (by omega)])
      refine at_iincN dX12_comes_140 rfl (by decide) ?_
      refine at_goto (tgt := 57) dX12_comes_143 (by decide) ?_
      exact hn
theorem zm_comes_3 {a b : Nat} {g f : Nat → Int64} (ha : a ≤ 20) (hg : ∀ j, j < a → g j = f j) (hp : post (some (.long (zcsum f a))) n (zm_h (zsL σ g) ρ)) : ∀ (k i : Nat), i + k = a → zq_At l G (zq_rm D 0 0) mX12_comes (zq_QF G post 0 0) 151 [(0, .ref 70), (1, .int (nI a)), (2, .int (nI b)), (3, .long (zcsum f i)), (5, .int (nI i))] [] n (zm_h (zsL σ g) ρ) 0 0 := by
  intro k
  induction k with
  | zero =>
    intro i hi
    obtain rfl : i = a := hi
    refine at_iload dX12_comes_151 rfl ?_
    refine at_iload_n dX12_comes_153 rfl ?_
    refine at_geN (tgt := 173) dX12_comes_154 (by decide) (by omega) (by omega) (fun c154 => ?_) (fun c154 => ?_)
    · refine at_lload_n dX12_comes_173 rfl ?_
      refine at_lret dX12_comes_174 rfl (by omega) (by omega) ?_
      exact hp
    · omega
  | succ k ih =>
    intro i hi
    have hn := ih (i + 1) (by omega)
    unfold zcsum at hn
    refine at_iload dX12_comes_151 rfl ?_
    refine at_iload_n dX12_comes_153 rfl ?_
    refine at_geN (tgt := 173) dX12_comes_154 (by decide) (by omega) (by omega) (fun c154 => ?_) (fun c154 => ?_)
    · omega
    · refine at_lload_n dX12_comes_157 rfl ?_
      refine at_aload_n dX12_comes_158 rfl ?_
      refine at_get dX12_comes_159 fl_X12_110 rfl rfl ?_
      refine at_iload dX12_comes_162 rfl ?_
      refine at_ml0ld dX12_comes_164 rfl (by omega) ?_
      rw [zsL_s, hg i (by omega)]
      refine at_ladd dX12_comes_165 ?_
      refine at_lstore_n dX12_comes_166 rfl (by decide) ?_
      refine at_iincN dX12_comes_167 rfl (by decide) ?_
      refine at_goto (tgt := 151) dX12_comes_170 (by decide) ?_
      exact hn
theorem zm_comes {u v : Int32} (hD : 1 ≤ D) (hf : ((decide (nI 1 ≤ u) && decide (u ≤ nI 20)) && (decide (nI 0 ≤ v) && decide (v ≤ nI 99))) = false → post (some (.long (-1))) n (zm_h σ ρ)) (ht : ∀ (a b : Nat) (g : Nat → Int64), 1 ≤ a → a ≤ 20 → b ≤ 99 → u = nI a → v = nI b → post (some (.long (zcsum (zcit (σ.2.1 72 71) b) a))) n (zm_h (zsL σ g) ρ)) : zq_Runs l G D 0 0 yX12_comes [.ref 70, .int u, .int v] n (zm_h σ ρ) post := by
  refine zq_enter (cc := cX12_comes) (nL := 6) (ret := (some .long)) cw_X12_comes (by decide) rfl (Nat.le_of_ble_eq_true rfl) ?_
  refine at_iload_n dX12_comes_0 rfl ?_
  refine at_iconst dX12_comes_1 (v := nI 1) (by decide) ?_
  refine at_bipush dX12_comes_2 (v := nI 20) (by decide) ?_
  refine at_callS3 (d := D - 1) dX12_comes_4 ms_X12_18 (Nat.le_of_ble_eq_true rfl) (zq_r0 (by omega) (by omega) (by omega)) ?_
  refine zm_lies ?_
  refine at_if_eqB (tgt := 20) dX12_comes_7 (by decide) (fun c7 => ?_) (fun c7 => ?_)
  · have hp := hf (by rw [c7]; rfl)
    refine at_ldc2 dX12_comes_20 kl_X12_446 ?_
    refine at_lret dX12_comes_23 rfl (by omega) (by omega) ?_
    exact hp
  · refine at_iload_n dX12_comes_10 rfl ?_
    refine at_iconst dX12_comes_11 (v := nI 0) (by decide) ?_
    refine at_bipush dX12_comes_12 (v := nI 99) (by decide) ?_
    refine at_callS3 (d := D - 1) dX12_comes_14 ms_X12_18 (Nat.le_of_ble_eq_true rfl) (zq_r0 (by omega) (by omega) (by omega)) ?_
    refine zm_lies ?_
    refine at_if_neB (tgt := 24) dX12_comes_17 (by decide) (fun c17 => ?_) (fun c17 => ?_)
    · refine at_iconst dX12_comes_24 (v := nI 0) (by decide) ?_
      refine at_istore_n dX12_comes_25 rfl (by decide) ?_
      obtain ⟨a, ha1, ha, rfl⟩ := zlies_n (by decide) (by decide) c7
      obtain ⟨b, -, hb, rfl⟩ := zlies_n (by decide) (by decide) c17
      have h0 := zm_comes_0 (l := l) (G := G) (D := D) (n := n) (σ := σ) (ρ := ρ) (post := post) (a := a) (b := b) (fun g hg => by
        have h1 := zm_comes_2 (l := l) (G := G) (D := D) (n := n) (σ := σ) (ρ := ρ) (post := post) ha1 ha hb (fun g2 hg2 => by
          have hp := ht a b g2 ha1 ha hb rfl rfl
          have h2 := zm_comes_3 (l := l) (G := G) (D := D) (b := b) ha hg2 hp a 0 (Nat.zero_add _)
          refine at_lconst dX12_comes_146 (v := 0) rfl ?_
          refine at_lstore_n dX12_comes_147 rfl (by decide) ?_
          refine at_iconst dX12_comes_148 (v := nI 0) (by decide) ?_
          refine at_istore dX12_comes_149 (by decide) ?_
          exact h2
          ) b 0 g (Nat.zero_add _) (fun j hj => hg j (by omega))
        refine at_iconst dX12_comes_55 (v := nI 0) (by decide) ?_
        refine at_istore_n dX12_comes_56 rfl (by decide) ?_
        exact h1
        ) 21 0 (σ.2.2 0) rfl (fun j hj => absurd hj (Nat.not_lt_zero _))
      rw [zsL_0] at h0
      exact h0
    · have hp := hf (by rw [c17, Bool.and_false])
      refine at_ldc2 dX12_comes_20 kl_X12_446 ?_
      refine at_lret dX12_comes_23 rfl (by omega) (by omega) ?_
      exact hp
end ZL8

