/-! ===== a quay copied; the log; answers ===== -/
/-- a quay's cells at b -/
def zu_set (f : Nat → zq_E) (b : Nat) (i : Nat → Int32) (A : Nat → Nat → Int32) (T : Nat → Option Nat) : Nat → zq_E := fun k =>
  if k = b then .inr (7, zu_fs i b) else if k = b + 10 then .inl (6, 6, .inr (.inr (.inr (.inr T)))) else if b < k ∧ k < b + 10 then .inl (0, zu_len (k - b), .inl (A (k - b))) else f k
def zUA (f : Nat → zq_E) (b : Nat) (i : Nat → Int32) (A : Nat → Nat → Int32) (T : Nat → Option Nat) : Prop := f b = .inr (7, zu_fs i b) ∧ (∀ c, 1 ≤ c → c ≤ 9 → f (b + c) = .inl (0, zu_len c, .inl (A c))) ∧ f (b + 10) = .inl (6, 6, .inr (.inr (.inr (.inr T))))
section ZUS
variable {f : Nat → zq_E} {b : Nat} {i : Nat → Int32} {A : Nat → Nat → Int32} {T : Nat → Option Nat}
theorem zus_o : zu_set f b i A T b = .inr (7, zu_fs i b) := if_pos rfl
theorem zus_a {c : Nat} (h1 : 1 ≤ c) (h9 : c ≤ 9) : zu_set f b i A T (b + c) = .inl (0, zu_len c, .inl (A c)) := by
  unfold zu_set
  rw [if_neg (by omega), if_neg (by omega), if_pos (by omega), Nat.add_sub_cancel_left]
theorem zus_t : zu_set f b i A T (b + 10) = .inl (6, 6, .inr (.inr (.inr (.inr T)))) := by
  unfold zu_set
  rw [if_neg (by omega), if_pos rfl]
theorem zus_x {k : Nat} (h : k < b ∨ b + 10 < k) : zu_set f b i A T k = f k := by
  unfold zu_set
  rw [if_neg (by omega), if_neg (by omega), if_neg (by omega)]
theorem zus_0 (h : zUA f b i A T) : zu_set f b i A T = f := by
  funext k
  by_cases h0 : k = b
  · rw [h0, zus_o]; exact h.1.symm
  · by_cases h1 : k = b + 10
    · rw [h1, zus_t]; exact h.2.2.symm
    · by_cases h2 : b < k ∧ k < b + 10
      · obtain ⟨c, rfl⟩ : ∃ c, k = b + c := ⟨k - b, by omega⟩
        rw [zus_a (by omega) (by omega)]; exact (h.2.1 c (by omega) (by omega)).symm
      · exact zus_x (by omega)
theorem zus_ui {k : Nat} {v : Int32} (hk : k = 0 ∨ k = 8 ∨ k = 11 ∨ k = 13) : va_up (zu_set f b i A T) b (.inr (7, (zu_fs i b).set k (.int v))) = zu_set f b (upd i k v) A T := by
  funext j
  by_cases h : j = b
  · subst h
    rw [va_up_self, zus_o]
    rcases hk with rfl | rfl | rfl | rfl <;> rfl
  · rw [va_up_ne _ _ h]
    unfold zu_set
    rw [if_neg h, if_neg h]
theorem zus_ua {c : Nat} {g : Nat → Int32} (h1 : 1 ≤ c) (h9 : c ≤ 9) : va_up (zu_set f b i A T) (b + c) (.inl (0, zu_len c, .inl g)) = zu_set f b i (va_up A c g) T := by
  funext j
  by_cases h : j = b + c
  · subst h
    rw [va_up_self, zus_a h1 h9, va_up_self]
  · rw [va_up_ne _ _ h]
    unfold zu_set
    by_cases h0 : j = b
    · rw [if_pos h0, if_pos h0]
    · rw [if_neg h0, if_neg h0]
      by_cases h2 : j = b + 10
      · rw [if_pos h2, if_pos h2]
      · rw [if_neg h2, if_neg h2]
        by_cases h3 : b < j ∧ j < b + 10
        · rw [if_pos h3, if_pos h3, va_up_ne _ _ (by omega)]
        · rw [if_neg h3, if_neg h3]
theorem zus_ut {T' : Nat → Option Nat} : va_up (zu_set f b i A T) (b + 10) (.inl (6, 6, .inr (.inr (.inr (.inr T'))))) = zu_set f b i A T' := by
  funext j
  by_cases h : j = b + 10
  · subst h
    rw [va_up_self, zus_t]
  · rw [va_up_ne _ _ h]
    unfold zu_set
    rw [if_neg h, if_neg h]
end ZUS
/-- alike as far as their rows go -/
def zUE (i i' : Nat → Int32) (A A' : Nat → Nat → Int32) (T T' : Nat → Option Nat) : Prop := (i 0 = i' 0 ∧ i 8 = i' 8 ∧ i 11 = i' 11 ∧ i 13 = i' 13) ∧ (∀ c j, 1 ≤ c → c ≤ 9 → j < zu_len c → A c j = A' c j) ∧ ∀ j, j < 6 → T j = T' j
theorem dX7_copyFrom_0 : decode cX7_copyFrom 0 = .ok (.aload_n 0, 1) := by decide +kernel
theorem dX7_copyFrom_1 : decode cX7_copyFrom 1 = .ok (.aload_n 1, 1) := by decide +kernel
theorem dX7_copyFrom_2 : decode cX7_copyFrom 2 = .ok (.getfield 9, 3) := by decide +kernel
theorem dX7_copyFrom_5 : decode cX7_copyFrom 5 = .ok (.putfield 9, 3) := by decide +kernel
theorem dX7_copyFrom_8 : decode cX7_copyFrom 8 = .ok (.aload_n 1, 1) := by decide +kernel
theorem dX7_copyFrom_9 : decode cX7_copyFrom 9 = .ok (.getfield 15, 3) := by decide +kernel
theorem dX7_copyFrom_12 : decode cX7_copyFrom 12 = .ok (.iconst 0, 1) := by decide +kernel
theorem dX7_copyFrom_13 : decode cX7_copyFrom 13 = .ok (.aload_n 0, 1) := by decide +kernel
theorem dX7_copyFrom_14 : decode cX7_copyFrom 14 = .ok (.getfield 15, 3) := by decide +kernel
theorem dX7_copyFrom_17 : decode cX7_copyFrom 17 = .ok (.iconst 0, 1) := by decide +kernel
theorem dX7_copyFrom_18 : decode cX7_copyFrom 18 = .ok (.bipush 7, 2) := by decide +kernel
theorem dX7_copyFrom_20 : decode cX7_copyFrom 20 = .ok (.invokestatic 58, 3) := by decide +kernel
theorem dX7_copyFrom_23 : decode cX7_copyFrom 23 = .ok (.aload_n 1, 1) := by decide +kernel
theorem dX7_copyFrom_24 : decode cX7_copyFrom 24 = .ok (.getfield 19, 3) := by decide +kernel
theorem dX7_copyFrom_27 : decode cX7_copyFrom 27 = .ok (.iconst 0, 1) := by decide +kernel
theorem dX7_copyFrom_28 : decode cX7_copyFrom 28 = .ok (.aload_n 0, 1) := by decide +kernel
theorem dX7_copyFrom_29 : decode cX7_copyFrom 29 = .ok (.getfield 19, 3) := by decide +kernel
theorem dX7_copyFrom_32 : decode cX7_copyFrom 32 = .ok (.iconst 0, 1) := by decide +kernel
theorem dX7_copyFrom_33 : decode cX7_copyFrom 33 = .ok (.bipush 7, 2) := by decide +kernel
theorem dX7_copyFrom_35 : decode cX7_copyFrom 35 = .ok (.invokestatic 58, 3) := by decide +kernel
theorem dX7_copyFrom_38 : decode cX7_copyFrom 38 = .ok (.aload_n 1, 1) := by decide +kernel
theorem dX7_copyFrom_39 : decode cX7_copyFrom 39 = .ok (.getfield 22, 3) := by decide +kernel
theorem dX7_copyFrom_42 : decode cX7_copyFrom 42 = .ok (.iconst 0, 1) := by decide +kernel
theorem dX7_copyFrom_43 : decode cX7_copyFrom 43 = .ok (.aload_n 0, 1) := by decide +kernel
theorem dX7_copyFrom_44 : decode cX7_copyFrom 44 = .ok (.getfield 22, 3) := by decide +kernel
theorem dX7_copyFrom_47 : decode cX7_copyFrom 47 = .ok (.iconst 0, 1) := by decide +kernel
theorem dX7_copyFrom_48 : decode cX7_copyFrom 48 = .ok (.bipush 7, 2) := by decide +kernel
theorem dX7_copyFrom_50 : decode cX7_copyFrom 50 = .ok (.invokestatic 58, 3) := by decide +kernel
theorem dX7_copyFrom_53 : decode cX7_copyFrom 53 = .ok (.aload_n 1, 1) := by decide +kernel
theorem dX7_copyFrom_54 : decode cX7_copyFrom 54 = .ok (.getfield 25, 3) := by decide +kernel
theorem dX7_copyFrom_57 : decode cX7_copyFrom 57 = .ok (.iconst 0, 1) := by decide +kernel
theorem dX7_copyFrom_58 : decode cX7_copyFrom 58 = .ok (.aload_n 0, 1) := by decide +kernel
theorem dX7_copyFrom_59 : decode cX7_copyFrom 59 = .ok (.getfield 25, 3) := by decide +kernel
theorem dX7_copyFrom_62 : decode cX7_copyFrom 62 = .ok (.iconst 0, 1) := by decide +kernel
theorem dX7_copyFrom_63 : decode cX7_copyFrom 63 = .ok (.bipush 35, 2) := by decide +kernel
theorem dX7_copyFrom_65 : decode cX7_copyFrom 65 = .ok (.invokestatic 58, 3) := by decide +kernel
theorem dX7_copyFrom_68 : decode cX7_copyFrom 68 = .ok (.aload_n 1, 1) := by decide +kernel
theorem dX7_copyFrom_69 : decode cX7_copyFrom 69 = .ok (.getfield 28, 3) := by decide +kernel
theorem dX7_copyFrom_72 : decode cX7_copyFrom 72 = .ok (.iconst 0, 1) := by decide +kernel
theorem dX7_copyFrom_73 : decode cX7_copyFrom 73 = .ok (.aload_n 0, 1) := by decide +kernel
theorem dX7_copyFrom_74 : decode cX7_copyFrom 74 = .ok (.getfield 28, 3) := by decide +kernel
theorem dX7_copyFrom_77 : decode cX7_copyFrom 77 = .ok (.iconst 0, 1) := by decide +kernel
theorem dX7_copyFrom_78 : decode cX7_copyFrom 78 = .ok (.iconst 5, 1) := by decide +kernel
theorem dX7_copyFrom_79 : decode cX7_copyFrom 79 = .ok (.invokestatic 58, 3) := by decide +kernel
theorem dX7_copyFrom_82 : decode cX7_copyFrom 82 = .ok (.aload_n 1, 1) := by decide +kernel
theorem dX7_copyFrom_83 : decode cX7_copyFrom 83 = .ok (.getfield 31, 3) := by decide +kernel
theorem dX7_copyFrom_86 : decode cX7_copyFrom 86 = .ok (.iconst 0, 1) := by decide +kernel
theorem dX7_copyFrom_87 : decode cX7_copyFrom 87 = .ok (.aload_n 0, 1) := by decide +kernel
theorem dX7_copyFrom_88 : decode cX7_copyFrom 88 = .ok (.getfield 31, 3) := by decide +kernel
theorem dX7_copyFrom_91 : decode cX7_copyFrom 91 = .ok (.iconst 0, 1) := by decide +kernel
theorem dX7_copyFrom_92 : decode cX7_copyFrom 92 = .ok (.bipush 6, 2) := by decide +kernel
theorem dX7_copyFrom_94 : decode cX7_copyFrom 94 = .ok (.invokestatic 58, 3) := by decide +kernel
theorem dX7_copyFrom_97 : decode cX7_copyFrom 97 = .ok (.aload_n 1, 1) := by decide +kernel
theorem dX7_copyFrom_98 : decode cX7_copyFrom 98 = .ok (.getfield 34, 3) := by decide +kernel
theorem dX7_copyFrom_101 : decode cX7_copyFrom 101 = .ok (.iconst 0, 1) := by decide +kernel
theorem dX7_copyFrom_102 : decode cX7_copyFrom 102 = .ok (.aload_n 0, 1) := by decide +kernel
theorem dX7_copyFrom_103 : decode cX7_copyFrom 103 = .ok (.getfield 34, 3) := by decide +kernel
theorem dX7_copyFrom_106 : decode cX7_copyFrom 106 = .ok (.iconst 0, 1) := by decide +kernel
theorem dX7_copyFrom_107 : decode cX7_copyFrom 107 = .ok (.getstatic 64, 3) := by decide +kernel
theorem dX7_copyFrom_110 : decode cX7_copyFrom 110 = .ok (.arraylength, 1) := by decide +kernel
theorem dX7_copyFrom_111 : decode cX7_copyFrom 111 = .ok (.invokestatic 58, 3) := by decide +kernel
theorem dX7_copyFrom_114 : decode cX7_copyFrom 114 = .ok (.aload_n 0, 1) := by decide +kernel
theorem dX7_copyFrom_115 : decode cX7_copyFrom 115 = .ok (.aload_n 1, 1) := by decide +kernel
theorem dX7_copyFrom_116 : decode cX7_copyFrom 116 = .ok (.getfield 37, 3) := by decide +kernel
theorem dX7_copyFrom_119 : decode cX7_copyFrom 119 = .ok (.putfield 37, 3) := by decide +kernel
theorem dX7_copyFrom_122 : decode cX7_copyFrom 122 = .ok (.aload_n 1, 1) := by decide +kernel
theorem dX7_copyFrom_123 : decode cX7_copyFrom 123 = .ok (.getfield 40, 3) := by decide +kernel
theorem dX7_copyFrom_126 : decode cX7_copyFrom 126 = .ok (.iconst 0, 1) := by decide +kernel
theorem dX7_copyFrom_127 : decode cX7_copyFrom 127 = .ok (.aload_n 0, 1) := by decide +kernel
theorem dX7_copyFrom_128 : decode cX7_copyFrom 128 = .ok (.getfield 40, 3) := by decide +kernel
theorem dX7_copyFrom_131 : decode cX7_copyFrom 131 = .ok (.iconst 0, 1) := by decide +kernel
theorem dX7_copyFrom_132 : decode cX7_copyFrom 132 = .ok (.bipush 8, 2) := by decide +kernel
theorem dX7_copyFrom_134 : decode cX7_copyFrom 134 = .ok (.invokestatic 58, 3) := by decide +kernel
theorem dX7_copyFrom_137 : decode cX7_copyFrom 137 = .ok (.aload_n 1, 1) := by decide +kernel
theorem dX7_copyFrom_138 : decode cX7_copyFrom 138 = .ok (.getfield 43, 3) := by decide +kernel
theorem dX7_copyFrom_141 : decode cX7_copyFrom 141 = .ok (.iconst 0, 1) := by decide +kernel
theorem dX7_copyFrom_142 : decode cX7_copyFrom 142 = .ok (.aload_n 0, 1) := by decide +kernel
theorem dX7_copyFrom_143 : decode cX7_copyFrom 143 = .ok (.getfield 43, 3) := by decide +kernel
theorem dX7_copyFrom_146 : decode cX7_copyFrom 146 = .ok (.iconst 0, 1) := by decide +kernel
theorem dX7_copyFrom_147 : decode cX7_copyFrom 147 = .ok (.bipush 8, 2) := by decide +kernel
theorem dX7_copyFrom_149 : decode cX7_copyFrom 149 = .ok (.invokestatic 58, 3) := by decide +kernel
theorem dX7_copyFrom_152 : decode cX7_copyFrom 152 = .ok (.aload_n 0, 1) := by decide +kernel
theorem dX7_copyFrom_153 : decode cX7_copyFrom 153 = .ok (.aload_n 1, 1) := by decide +kernel
theorem dX7_copyFrom_154 : decode cX7_copyFrom 154 = .ok (.getfield 46, 3) := by decide +kernel
theorem dX7_copyFrom_157 : decode cX7_copyFrom 157 = .ok (.putfield 46, 3) := by decide +kernel
theorem dX7_copyFrom_160 : decode cX7_copyFrom 160 = .ok (.iconst 0, 1) := by decide +kernel
theorem dX7_copyFrom_161 : decode cX7_copyFrom 161 = .ok (.istore_n 2, 1) := by decide +kernel
theorem dX7_copyFrom_162 : decode cX7_copyFrom 162 = .ok (.iload_n 2, 1) := by decide +kernel
theorem dX7_copyFrom_163 : decode cX7_copyFrom 163 = .ok (.bipush 6, 2) := by decide +kernel
theorem dX7_copyFrom_165 : decode cX7_copyFrom 165 = .ok (.if_icmp .ge 21, 3) := by decide +kernel
theorem dX7_copyFrom_168 : decode cX7_copyFrom 168 = .ok (.aload_n 0, 1) := by decide +kernel
theorem dX7_copyFrom_169 : decode cX7_copyFrom 169 = .ok (.getfield 51, 3) := by decide +kernel
theorem dX7_copyFrom_172 : decode cX7_copyFrom 172 = .ok (.iload_n 2, 1) := by decide +kernel
theorem dX7_copyFrom_173 : decode cX7_copyFrom 173 = .ok (.aload_n 1, 1) := by decide +kernel
theorem dX7_copyFrom_174 : decode cX7_copyFrom 174 = .ok (.getfield 51, 3) := by decide +kernel
theorem dX7_copyFrom_177 : decode cX7_copyFrom 177 = .ok (.iload_n 2, 1) := by decide +kernel
theorem dX7_copyFrom_178 : decode cX7_copyFrom 178 = .ok (.aaload, 1) := by decide +kernel
theorem dX7_copyFrom_179 : decode cX7_copyFrom 179 = .ok (.aastore, 1) := by decide +kernel
theorem dX7_copyFrom_180 : decode cX7_copyFrom 180 = .ok (.iinc 2 1, 3) := by decide +kernel
theorem dX7_copyFrom_183 : decode cX7_copyFrom 183 = .ok (.goto (-21), 3) := by decide +kernel
theorem dX7_copyFrom_186 : decode cX7_copyFrom 186 = .ok (.aload_n 0, 1) := by decide +kernel
theorem dX7_copyFrom_187 : decode cX7_copyFrom 187 = .ok (.aload_n 1, 1) := by decide +kernel
theorem dX7_copyFrom_188 : decode cX7_copyFrom 188 = .ok (.getfield 55, 3) := by decide +kernel
theorem dX7_copyFrom_191 : decode cX7_copyFrom 191 = .ok (.putfield 55, 3) := by decide +kernel
theorem dX7_copyFrom_194 : decode cX7_copyFrom 194 = .ok (.return_, 1) := by decide +kernel
abbrev mX7_copyFrom : zq_M := (cX7_copyFrom, RX7, "copyFrom", none, 3)
theorem dX4_clear_0 : decode cX4_clear 0 = .ok (.aload_n 0, 1) := by decide +kernel
theorem dX4_clear_1 : decode cX4_clear 1 = .ok (.iconst 0, 1) := by decide +kernel
theorem dX4_clear_2 : decode cX4_clear 2 = .ok (.putfield 9, 3) := by decide +kernel
theorem dX4_clear_5 : decode cX4_clear 5 = .ok (.return_, 1) := by decide +kernel
abbrev mX4_clear : zq_M := (cX4_clear, RX4, "clear", none, 1)
theorem dX4_copyFrom_0 : decode cX4_copyFrom 0 = .ok (.aload_n 0, 1) := by decide +kernel
theorem dX4_copyFrom_1 : decode cX4_copyFrom 1 = .ok (.aload_n 1, 1) := by decide +kernel
theorem dX4_copyFrom_2 : decode cX4_copyFrom 2 = .ok (.getfield 9, 3) := by decide +kernel
theorem dX4_copyFrom_5 : decode cX4_copyFrom 5 = .ok (.putfield 9, 3) := by decide +kernel
theorem dX4_copyFrom_8 : decode cX4_copyFrom 8 = .ok (.aload_n 1, 1) := by decide +kernel
theorem dX4_copyFrom_9 : decode cX4_copyFrom 9 = .ok (.getfield 15, 3) := by decide +kernel
theorem dX4_copyFrom_12 : decode cX4_copyFrom 12 = .ok (.iconst 0, 1) := by decide +kernel
theorem dX4_copyFrom_13 : decode cX4_copyFrom 13 = .ok (.aload_n 0, 1) := by decide +kernel
theorem dX4_copyFrom_14 : decode cX4_copyFrom 14 = .ok (.getfield 15, 3) := by decide +kernel
theorem dX4_copyFrom_17 : decode cX4_copyFrom 17 = .ok (.iconst 0, 1) := by decide +kernel
theorem dX4_copyFrom_18 : decode cX4_copyFrom 18 = .ok (.bipush 16, 2) := by decide +kernel
theorem dX4_copyFrom_20 : decode cX4_copyFrom 20 = .ok (.invokestatic 19, 3) := by decide +kernel
theorem dX4_copyFrom_23 : decode cX4_copyFrom 23 = .ok (.return_, 1) := by decide +kernel
abbrev mX4_copyFrom : zq_M := (cX4_copyFrom, RX4, "copyFrom", none, 2)
theorem dX4_add_0 : decode cX4_add 0 = .ok (.aload_n 0, 1) := by decide +kernel
theorem dX4_add_1 : decode cX4_add 1 = .ok (.getfield 9, 3) := by decide +kernel
theorem dX4_add_4 : decode cX4_add 4 = .ok (.bipush 16, 2) := by decide +kernel
theorem dX4_add_6 : decode cX4_add 6 = .ok (.if_icmp .lt 24, 3) := by decide +kernel
theorem dX4_add_9 : decode cX4_add 9 = .ok (.aload_n 0, 1) := by decide +kernel
theorem dX4_add_10 : decode cX4_add 10 = .ok (.getfield 15, 3) := by decide +kernel
theorem dX4_add_13 : decode cX4_add 13 = .ok (.iconst 1, 1) := by decide +kernel
theorem dX4_add_14 : decode cX4_add 14 = .ok (.aload_n 0, 1) := by decide +kernel
theorem dX4_add_15 : decode cX4_add 15 = .ok (.getfield 15, 3) := by decide +kernel
theorem dX4_add_18 : decode cX4_add 18 = .ok (.iconst 0, 1) := by decide +kernel
theorem dX4_add_19 : decode cX4_add 19 = .ok (.bipush 15, 2) := by decide +kernel
theorem dX4_add_21 : decode cX4_add 21 = .ok (.invokestatic 19, 3) := by decide +kernel
theorem dX4_add_24 : decode cX4_add 24 = .ok (.aload_n 0, 1) := by decide +kernel
theorem dX4_add_25 : decode cX4_add 25 = .ok (.bipush 15, 2) := by decide +kernel
theorem dX4_add_27 : decode cX4_add 27 = .ok (.putfield 9, 3) := by decide +kernel
theorem dX4_add_30 : decode cX4_add 30 = .ok (.aload_n 0, 1) := by decide +kernel
theorem dX4_add_31 : decode cX4_add 31 = .ok (.getfield 9, 3) := by decide +kernel
theorem dX4_add_34 : decode cX4_add 34 = .ok (.ifCond .lt 40, 3) := by decide +kernel
theorem dX4_add_37 : decode cX4_add 37 = .ok (.aload_n 0, 1) := by decide +kernel
theorem dX4_add_38 : decode cX4_add 38 = .ok (.getfield 15, 3) := by decide +kernel
theorem dX4_add_41 : decode cX4_add 41 = .ok (.aload_n 0, 1) := by decide +kernel
theorem dX4_add_42 : decode cX4_add 42 = .ok (.getfield 9, 3) := by decide +kernel
theorem dX4_add_45 : decode cX4_add 45 = .ok (.sipush 1000, 3) := by decide +kernel
theorem dX4_add_48 : decode cX4_add 48 = .ok (.iload_n 1, 1) := by decide +kernel
theorem dX4_add_49 : decode cX4_add 49 = .ok (.imul, 1) := by decide +kernel
theorem dX4_add_50 : decode cX4_add 50 = .ok (.bipush 100, 2) := by decide +kernel
theorem dX4_add_52 : decode cX4_add 52 = .ok (.iload_n 2, 1) := by decide +kernel
theorem dX4_add_53 : decode cX4_add 53 = .ok (.imul, 1) := by decide +kernel
theorem dX4_add_54 : decode cX4_add 54 = .ok (.iadd, 1) := by decide +kernel
theorem dX4_add_55 : decode cX4_add 55 = .ok (.bipush 10, 2) := by decide +kernel
theorem dX4_add_57 : decode cX4_add 57 = .ok (.iload_n 3, 1) := by decide +kernel
theorem dX4_add_58 : decode cX4_add 58 = .ok (.imul, 1) := by decide +kernel
theorem dX4_add_59 : decode cX4_add 59 = .ok (.iadd, 1) := by decide +kernel
theorem dX4_add_60 : decode cX4_add 60 = .ok (.iload 4, 2) := by decide +kernel
theorem dX4_add_62 : decode cX4_add 62 = .ok (.iadd, 1) := by decide +kernel
theorem dX4_add_63 : decode cX4_add 63 = .ok (.iastore, 1) := by decide +kernel
theorem dX4_add_64 : decode cX4_add 64 = .ok (.aload_n 0, 1) := by decide +kernel
theorem dX4_add_65 : decode cX4_add 65 = .ok (.dup, 1) := by decide +kernel
theorem dX4_add_66 : decode cX4_add 66 = .ok (.getfield 9, 3) := by decide +kernel
theorem dX4_add_69 : decode cX4_add 69 = .ok (.iconst 1, 1) := by decide +kernel
theorem dX4_add_70 : decode cX4_add 70 = .ok (.iadd, 1) := by decide +kernel
theorem dX4_add_71 : decode cX4_add 71 = .ok (.putfield 9, 3) := by decide +kernel
theorem dX4_add_74 : decode cX4_add 74 = .ok (.return_, 1) := by decide +kernel
abbrev mX4_add : zq_M := (cX4_add, RX4, "add", none, 5)
theorem dX4_take_0 : decode cX4_take 0 = .ok (.aload_n 0, 1) := by decide +kernel
theorem dX4_take_1 : decode cX4_take 1 = .ok (.getfield 9, 3) := by decide +kernel
theorem dX4_take_4 : decode cX4_take 4 = .ok (.iconst 1, 1) := by decide +kernel
theorem dX4_take_5 : decode cX4_take 5 = .ok (.if_icmp .lt 12, 3) := by decide +kernel
theorem dX4_take_8 : decode cX4_take 8 = .ok (.aload_n 0, 1) := by decide +kernel
theorem dX4_take_9 : decode cX4_take 9 = .ok (.getfield 9, 3) := by decide +kernel
theorem dX4_take_12 : decode cX4_take 12 = .ok (.bipush 16, 2) := by decide +kernel
theorem dX4_take_14 : decode cX4_take 14 = .ok (.if_icmp .le 5, 3) := by decide +kernel
theorem dX4_take_17 : decode cX4_take 17 = .ok (.iconst 0, 1) := by decide +kernel
theorem dX4_take_18 : decode cX4_take 18 = .ok (.ireturn, 1) := by decide +kernel
theorem dX4_take_19 : decode cX4_take 19 = .ok (.aload_n 0, 1) := by decide +kernel
theorem dX4_take_20 : decode cX4_take 20 = .ok (.dup, 1) := by decide +kernel
theorem dX4_take_21 : decode cX4_take 21 = .ok (.getfield 9, 3) := by decide +kernel
theorem dX4_take_24 : decode cX4_take 24 = .ok (.iconst 1, 1) := by decide +kernel
theorem dX4_take_25 : decode cX4_take 25 = .ok (.isub, 1) := by decide +kernel
theorem dX4_take_26 : decode cX4_take 26 = .ok (.putfield 9, 3) := by decide +kernel
theorem dX4_take_29 : decode cX4_take 29 = .ok (.aload_n 0, 1) := by decide +kernel
theorem dX4_take_30 : decode cX4_take 30 = .ok (.getfield 15, 3) := by decide +kernel
theorem dX4_take_33 : decode cX4_take 33 = .ok (.aload_n 0, 1) := by decide +kernel
theorem dX4_take_34 : decode cX4_take 34 = .ok (.getfield 9, 3) := by decide +kernel
theorem dX4_take_37 : decode cX4_take 37 = .ok (.iaload, 1) := by decide +kernel
theorem dX4_take_38 : decode cX4_take 38 = .ok (.ireturn, 1) := by decide +kernel
abbrev mX4_take : zq_M := (cX4_take, RX4, "take", (some .int), 1)
theorem dX4_kindOf_0 : decode cX4_kindOf 0 = .ok (.iload_n 0, 1) := by decide +kernel
theorem dX4_kindOf_1 : decode cX4_kindOf 1 = .ok (.sipush 1000, 3) := by decide +kernel
theorem dX4_kindOf_4 : decode cX4_kindOf 4 = .ok (.idiv, 1) := by decide +kernel
theorem dX4_kindOf_5 : decode cX4_kindOf 5 = .ok (.ireturn, 1) := by decide +kernel
abbrev mX4_kindOf : zq_M := (cX4_kindOf, RX4, "kindOf", (some .int), 1)
theorem dX4_firstOf_0 : decode cX4_firstOf 0 = .ok (.iload_n 0, 1) := by decide +kernel
theorem dX4_firstOf_1 : decode cX4_firstOf 1 = .ok (.bipush 100, 2) := by decide +kernel
theorem dX4_firstOf_3 : decode cX4_firstOf 3 = .ok (.idiv, 1) := by decide +kernel
theorem dX4_firstOf_4 : decode cX4_firstOf 4 = .ok (.bipush 10, 2) := by decide +kernel
theorem dX4_firstOf_6 : decode cX4_firstOf 6 = .ok (.irem, 1) := by decide +kernel
theorem dX4_firstOf_7 : decode cX4_firstOf 7 = .ok (.ireturn, 1) := by decide +kernel
abbrev mX4_firstOf : zq_M := (cX4_firstOf, RX4, "firstOf", (some .int), 1)
theorem dX4_secondOf_0 : decode cX4_secondOf 0 = .ok (.iload_n 0, 1) := by decide +kernel
theorem dX4_secondOf_1 : decode cX4_secondOf 1 = .ok (.bipush 10, 2) := by decide +kernel
theorem dX4_secondOf_3 : decode cX4_secondOf 3 = .ok (.idiv, 1) := by decide +kernel
theorem dX4_secondOf_4 : decode cX4_secondOf 4 = .ok (.bipush 10, 2) := by decide +kernel
theorem dX4_secondOf_6 : decode cX4_secondOf 6 = .ok (.irem, 1) := by decide +kernel
theorem dX4_secondOf_7 : decode cX4_secondOf 7 = .ok (.ireturn, 1) := by decide +kernel
abbrev mX4_secondOf : zq_M := (cX4_secondOf, RX4, "secondOf", (some .int), 1)
theorem dX4_thirdOf_0 : decode cX4_thirdOf 0 = .ok (.iload_n 0, 1) := by decide +kernel
theorem dX4_thirdOf_1 : decode cX4_thirdOf 1 = .ok (.bipush 10, 2) := by decide +kernel
theorem dX4_thirdOf_3 : decode cX4_thirdOf 3 = .ok (.irem, 1) := by decide +kernel
theorem dX4_thirdOf_4 : decode cX4_thirdOf 4 = .ok (.ireturn, 1) := by decide +kernel
abbrev mX4_thirdOf : zq_M := (cX4_thirdOf, RX4, "thirdOf", (some .int), 1)
theorem dX11_accept_0 : decode cX11_accept 0 = .ok (.aload_n 0, 1) := by decide +kernel
theorem dX11_accept_1 : decode cX11_accept 1 = .ok (.iconst 0, 1) := by decide +kernel
theorem dX11_accept_2 : decode cX11_accept 2 = .ok (.putfield 94, 3) := by decide +kernel
theorem dX11_accept_5 : decode cX11_accept 5 = .ok (.iload_n 1, 1) := by decide +kernel
theorem dX11_accept_6 : decode cX11_accept 6 = .ok (.ireturn, 1) := by decide +kernel
abbrev mX11_accept : zq_M := (cX11_accept, RX11, "accept", (some .int), 2)
theorem dX11_refuse_0 : decode cX11_refuse 0 = .ok (.aload_n 0, 1) := by decide +kernel
theorem dX11_refuse_1 : decode cX11_refuse 1 = .ok (.iload_n 1, 1) := by decide +kernel
theorem dX11_refuse_2 : decode cX11_refuse 2 = .ok (.putfield 94, 3) := by decide +kernel
theorem dX11_refuse_5 : decode cX11_refuse 5 = .ok (.iload_n 1, 1) := by decide +kernel
theorem dX11_refuse_6 : decode cX11_refuse 6 = .ok (.bipush (-3), 2) := by decide +kernel
theorem dX11_refuse_8 : decode cX11_refuse 8 = .ok (.if_icmp .lt 10, 3) := by decide +kernel
theorem dX11_refuse_11 : decode cX11_refuse 11 = .ok (.iload_n 1, 1) := by decide +kernel
theorem dX11_refuse_12 : decode cX11_refuse 12 = .ok (.ineg, 1) := by decide +kernel
theorem dX11_refuse_13 : decode cX11_refuse 13 = .ok (.iconst 1, 1) := by decide +kernel
theorem dX11_refuse_14 : decode cX11_refuse 14 = .ok (.isub, 1) := by decide +kernel
theorem dX11_refuse_15 : decode cX11_refuse 15 = .ok (.goto 7, 3) := by decide +kernel
theorem dX11_refuse_18 : decode cX11_refuse 18 = .ok (.iload_n 1, 1) := by decide +kernel
theorem dX11_refuse_19 : decode cX11_refuse 19 = .ok (.ineg, 1) := by decide +kernel
theorem dX11_refuse_20 : decode cX11_refuse 20 = .ok (.iconst 2, 1) := by decide +kernel
theorem dX11_refuse_21 : decode cX11_refuse 21 = .ok (.isub, 1) := by decide +kernel
theorem dX11_refuse_22 : decode cX11_refuse 22 = .ok (.istore_n 2, 1) := by decide +kernel
theorem dX11_refuse_23 : decode cX11_refuse 23 = .ok (.iload_n 2, 1) := by decide +kernel
theorem dX11_refuse_24 : decode cX11_refuse 24 = .ok (.ifCond .lt 22, 3) := by decide +kernel
theorem dX11_refuse_27 : decode cX11_refuse 27 = .ok (.iload_n 2, 1) := by decide +kernel
theorem dX11_refuse_28 : decode cX11_refuse 28 = .ok (.aload_n 0, 1) := by decide +kernel
theorem dX11_refuse_29 : decode cX11_refuse 29 = .ok (.getfield 82, 3) := by decide +kernel
theorem dX11_refuse_32 : decode cX11_refuse 32 = .ok (.arraylength, 1) := by decide +kernel
theorem dX11_refuse_33 : decode cX11_refuse 33 = .ok (.if_icmp .ge 13, 3) := by decide +kernel
theorem dX11_refuse_36 : decode cX11_refuse 36 = .ok (.aload_n 0, 1) := by decide +kernel
theorem dX11_refuse_37 : decode cX11_refuse 37 = .ok (.getfield 82, 3) := by decide +kernel
theorem dX11_refuse_40 : decode cX11_refuse 40 = .ok (.iload_n 2, 1) := by decide +kernel
theorem dX11_refuse_41 : decode cX11_refuse 41 = .ok (.dup2, 1) := by decide +kernel
theorem dX11_refuse_42 : decode cX11_refuse 42 = .ok (.iaload, 1) := by decide +kernel
theorem dX11_refuse_43 : decode cX11_refuse 43 = .ok (.iconst 1, 1) := by decide +kernel
theorem dX11_refuse_44 : decode cX11_refuse 44 = .ok (.iadd, 1) := by decide +kernel
theorem dX11_refuse_45 : decode cX11_refuse 45 = .ok (.iastore, 1) := by decide +kernel
theorem dX11_refuse_46 : decode cX11_refuse 46 = .ok (.iload_n 1, 1) := by decide +kernel
theorem dX11_refuse_47 : decode cX11_refuse 47 = .ok (.ireturn, 1) := by decide +kernel
abbrev mX11_refuse : zq_M := (cX11_refuse, RX11, "refuse", (some .int), 3)
theorem dX11_settle_0 : decode cX11_settle 0 = .ok (.iload_n 1, 1) := by decide +kernel
theorem dX11_settle_1 : decode cX11_settle 1 = .ok (.ifCond .ge 11, 3) := by decide +kernel
theorem dX11_settle_4 : decode cX11_settle 4 = .ok (.aload_n 0, 1) := by decide +kernel
theorem dX11_settle_5 : decode cX11_settle 5 = .ok (.iload_n 1, 1) := by decide +kernel
theorem dX11_settle_6 : decode cX11_settle 6 = .ok (.invokevirtual 103, 3) := by decide +kernel
theorem dX11_settle_9 : decode cX11_settle 9 = .ok (.goto 8, 3) := by decide +kernel
theorem dX11_settle_12 : decode cX11_settle 12 = .ok (.aload_n 0, 1) := by decide +kernel
theorem dX11_settle_13 : decode cX11_settle 13 = .ok (.iload_n 1, 1) := by decide +kernel
theorem dX11_settle_14 : decode cX11_settle 14 = .ok (.invokevirtual 117, 3) := by decide +kernel
theorem dX11_settle_17 : decode cX11_settle 17 = .ok (.ireturn, 1) := by decide +kernel
abbrev mX11_settle : zq_M := (cX11_settle, RX11, "settle", (some .int), 2)
section ZC5
variable {l : Launch} {G : zq_G} {D n b b' : Nat} {f : Nat → zq_E} {post : Option Value → Nat → (Nat → zq_E) → Prop} {i i' : Nat → Int32} {A A' : Nat → Nat → Int32} {T T' : Nat → Option Nat}
theorem zc_cp_texts (hdis : b + 10 < b' ∨ b' + 10 < b) (hO : zUA f b' i' A' T') (hT : ∀ j, j < 6 → T' j = none ∨ ∃ t fs, T' j = some t ∧ f t = .inr (10, fs) ∧ (t < b ∨ b + 10 < t)) (hq : ∀ T2, (∀ j, j < 6 → T2 j = T' j) → zq_At l G (zq_rm D 0 0) mX7_copyFrom (zq_QF G post 0 0) 186 [(0, .ref b), (1, .ref b'), (2, .int (nI 6))] [] n (zu_set f b i A T2) 0 0) : ∀ g k, k + g = 6 → ∀ T, (∀ j, j < k → T j = T' j) → zq_At l G (zq_rm D 0 0) mX7_copyFrom (zq_QF G post 0 0) 162 [(0, .ref b), (1, .ref b'), (2, .int (nI k))] [] n (zu_set f b i A T) 0 0 := by
  intro g
  induction g with
  | zero =>
    intro k hk T hTk
    obtain rfl : k = 6 := hk
    refine at_iload_n dX7_copyFrom_162 rfl ?_
    refine at_bipush dX7_copyFrom_163 (v := nI 6) (by decide) ?_
    refine at_geN (tgt := 186) dX7_copyFrom_165 (by decide) (by omega) (by omega) (fun c165 => ?_) (fun c165 => ?_)
    · exact hq T hTk
    · omega
  | succ g ih =>
    intro k hk T hTk
    obtain ⟨e1, e2⟩ := zn_in (i := nI k) (j := k) (N := 6) rfl (by omega) (by decide)
    have hn := ih (k + 1) (by omega) (va_up T k (T' k)) (fun j hj => by
      by_cases e : j = k
      · subst e; rw [va_up_self]
      · rw [va_up_ne _ _ e]; exact hTk j (by omega))
    refine at_iload_n dX7_copyFrom_162 rfl ?_
    refine at_bipush dX7_copyFrom_163 (v := nI 6) (by decide) ?_
    refine at_geN (tgt := 186) dX7_copyFrom_165 (by decide) (by omega) (by omega) (fun c165 => ?_) (fun c165 => ?_)
    · omega
    refine at_aload_n dX7_copyFrom_168 rfl ?_
    refine at_get dX7_copyFrom_169 fl_X7_51 zus_o rfl ?_
    refine at_iload_n dX7_copyFrom_172 rfl ?_
    refine at_aload_n dX7_copyFrom_173 rfl ?_
    refine at_get dX7_copyFrom_174 fl_X7_51 ((zus_x (by omega)).trans hO.1) rfl ?_
    refine at_iload_n dX7_copyFrom_177 rfl ?_
    refine at_aaldN dX7_copyFrom_178 ((zus_x (by omega)).trans hO.2.2) (by decide) (fun _ => rfl) (by decide) rfl (by omega) ?_
    have hfin : ∀ v, T' k = v → zq_At l G (zq_rm D 0 0) mX7_copyFrom (zq_QF G post 0 0) 180 [(0, .ref b), (1, .ref b'), (2, .int (nI k))] [] n (va_up (zu_set f b i A T) (b + 10) (.inl (6, 6, .inr (.inr (.inr (.inr (va_up T k v))))))) 0 0 := by
      rintro v rfl
      rw [zus_ut]
      refine at_iincN dX7_copyFrom_180 rfl (by decide) ?_
      refine at_goto (tgt := 162) dX7_copyFrom_183 (by decide) ?_
      exact hn
    rcases hT k (by omega) with h | ⟨t, fs, h, h2, h3⟩
    · have hfin := hfin none h
      rw [h]
      refine at_aastN dX7_copyFrom_179 zus_t (by decide) (fun _ => rfl) e1 ?_
      rw [e2]
      exact hfin
    · have hfin := hfin (some t) h
      rw [h]
      refine at_aast (r := (RX10, TX10, 3)) dX7_copyFrom_179 zus_t (by decide) (fun _ => rfl) ((zus_x h3).trans h2) rfl e1 ?_
      rw [e2]
      exact hfin
theorem zc_copyFrom (hD : 1 ≤ D) (hdis : b + 10 < b' ∨ b' + 10 < b) (hM : zUA f b i A T) (hO : zUA f b' i' A' T') (hT : ∀ j, j < 6 → T' j = none ∨ ∃ t fs, T' j = some t ∧ f t = .inr (10, fs) ∧ (t < b ∨ b + 10 < t))
    (hp : ∀ i2 A2 T2, zUE i2 i' A2 A' T2 T' → post none n (zu_set f b i2 A2 T2)) : zq_Runs l G D 0 0 yX7_copyFrom [.ref b, .ref b'] n f post := by
  rw [← zus_0 hM]
  have hx : ∀ i2 A2 T2 c, 1 ≤ c → c ≤ 9 → zu_set f b i2 A2 T2 (b' + c) = .inl (0, zu_len c, .inl (A' c)) := fun i2 A2 T2 c h1 h9 => (zus_x (by omega)).trans (hO.2.1 c h1 h9)
  have hxo : ∀ i2 A2 T2, zu_set f b i2 A2 T2 b' = .inr (7, zu_fs i' b') := fun i2 A2 T2 => (zus_x (by omega)).trans hO.1
  refine zq_enter (cc := cX7_copyFrom) (nL := 3) (ret := none) cw_X7_copyFrom (by decide) rfl (Nat.le_of_ble_eq_true rfl) ?_
  refine at_aload_n dX7_copyFrom_0 rfl ?_
  refine at_aload_n dX7_copyFrom_1 rfl ?_
  refine at_get dX7_copyFrom_2 fl_X7_9 (hxo _ _ _) rfl ?_
  refine at_put dX7_copyFrom_5 (pl_X7_9 _) zus_o (Nat.le_of_ble_eq_true rfl) (fun _ => rfl) (fun _ => rfl) ?_
  rw [zus_ui (k := 0) (by decide)]
  refine at_aload_n dX7_copyFrom_8 rfl ?_
  refine at_get dX7_copyFrom_9 fl_X7_15 (hxo _ _ _) rfl ?_
  refine at_iconst dX7_copyFrom_12 (v := nI 0) (by decide) ?_
  refine at_aload_n dX7_copyFrom_13 rfl ?_
  refine at_get dX7_copyFrom_14 fl_X7_15 zus_o rfl ?_
  refine at_iconst dX7_copyFrom_17 (v := nI 0) (by decide) ?_
  refine at_bipush dX7_copyFrom_18 (v := nI 7) (by decide) ?_
  refine at_copyi dX7_copyFrom_20 ac_X7_58 (hx _ _ _ 1 (by decide) (by decide)) (zus_a (c := 1) (by decide) (by decide)) (Nat.le_of_ble_eq_true rfl) (Nat.le_of_ble_eq_true rfl) (Nat.le_of_ble_eq_true rfl) (Nat.le_of_ble_eq_true rfl) (Nat.le_of_ble_eq_true rfl) ⟨by show 1 ≤ D; omega, by show 26 ≤ 60 * D; omega⟩ ?_
  rw [zus_ua (c := 1) (by decide) (by decide)]
  refine at_aload_n dX7_copyFrom_23 rfl ?_
  refine at_get dX7_copyFrom_24 fl_X7_19 (hxo _ _ _) rfl ?_
  refine at_iconst dX7_copyFrom_27 (v := nI 0) (by decide) ?_
  refine at_aload_n dX7_copyFrom_28 rfl ?_
  refine at_get dX7_copyFrom_29 fl_X7_19 zus_o rfl ?_
  refine at_iconst dX7_copyFrom_32 (v := nI 0) (by decide) ?_
  refine at_bipush dX7_copyFrom_33 (v := nI 7) (by decide) ?_
  refine at_copyi dX7_copyFrom_35 ac_X7_58 (hx _ _ _ 2 (by decide) (by decide)) (zus_a (c := 2) (by decide) (by decide)) (Nat.le_of_ble_eq_true rfl) (Nat.le_of_ble_eq_true rfl) (Nat.le_of_ble_eq_true rfl) (Nat.le_of_ble_eq_true rfl) (Nat.le_of_ble_eq_true rfl) ⟨by show 1 ≤ D; omega, by show 26 ≤ 60 * D; omega⟩ ?_
  rw [zus_ua (c := 2) (by decide) (by decide)]
  refine at_aload_n dX7_copyFrom_38 rfl ?_
  refine at_get dX7_copyFrom_39 fl_X7_22 (hxo _ _ _) rfl ?_
  refine at_iconst dX7_copyFrom_42 (v := nI 0) (by decide) ?_
  refine at_aload_n dX7_copyFrom_43 rfl ?_
  refine at_get dX7_copyFrom_44 fl_X7_22 zus_o rfl ?_
  refine at_iconst dX7_copyFrom_47 (v := nI 0) (by decide) ?_
  refine at_bipush dX7_copyFrom_48 (v := nI 7) (by decide) ?_
  refine at_copyi dX7_copyFrom_50 ac_X7_58 (hx _ _ _ 3 (by decide) (by decide)) (zus_a (c := 3) (by decide) (by decide)) (Nat.le_of_ble_eq_true rfl) (Nat.le_of_ble_eq_true rfl) (Nat.le_of_ble_eq_true rfl) (Nat.le_of_ble_eq_true rfl) (Nat.le_of_ble_eq_true rfl) ⟨by show 1 ≤ D; omega, by show 26 ≤ 60 * D; omega⟩ ?_
  rw [zus_ua (c := 3) (by decide) (by decide)]
  refine at_aload_n dX7_copyFrom_53 rfl ?_
  refine at_get dX7_copyFrom_54 fl_X7_25 (hxo _ _ _) rfl ?_
  refine at_iconst dX7_copyFrom_57 (v := nI 0) (by decide) ?_
  refine at_aload_n dX7_copyFrom_58 rfl ?_
  refine at_get dX7_copyFrom_59 fl_X7_25 zus_o rfl ?_
  refine at_iconst dX7_copyFrom_62 (v := nI 0) (by decide) ?_
  refine at_bipush dX7_copyFrom_63 (v := nI 35) (by decide) ?_
  refine at_copyi dX7_copyFrom_65 ac_X7_58 (hx _ _ _ 4 (by decide) (by decide)) (zus_a (c := 4) (by decide) (by decide)) (Nat.le_of_ble_eq_true rfl) (Nat.le_of_ble_eq_true rfl) (Nat.le_of_ble_eq_true rfl) (Nat.le_of_ble_eq_true rfl) (Nat.le_of_ble_eq_true rfl) ⟨by show 1 ≤ D; omega, by show 26 ≤ 60 * D; omega⟩ ?_
  rw [zus_ua (c := 4) (by decide) (by decide)]
  refine at_aload_n dX7_copyFrom_68 rfl ?_
  refine at_get dX7_copyFrom_69 fl_X7_28 (hxo _ _ _) rfl ?_
  refine at_iconst dX7_copyFrom_72 (v := nI 0) (by decide) ?_
  refine at_aload_n dX7_copyFrom_73 rfl ?_
  refine at_get dX7_copyFrom_74 fl_X7_28 zus_o rfl ?_
  refine at_iconst dX7_copyFrom_77 (v := nI 0) (by decide) ?_
  refine at_iconst dX7_copyFrom_78 (v := nI 5) (by decide) ?_
  refine at_copyi dX7_copyFrom_79 ac_X7_58 (hx _ _ _ 5 (by decide) (by decide)) (zus_a (c := 5) (by decide) (by decide)) (Nat.le_of_ble_eq_true rfl) (Nat.le_of_ble_eq_true rfl) (Nat.le_of_ble_eq_true rfl) (Nat.le_of_ble_eq_true rfl) (Nat.le_of_ble_eq_true rfl) ⟨by show 1 ≤ D; omega, by show 26 ≤ 60 * D; omega⟩ ?_
  rw [zus_ua (c := 5) (by decide) (by decide)]
  refine at_aload_n dX7_copyFrom_82 rfl ?_
  refine at_get dX7_copyFrom_83 fl_X7_31 (hxo _ _ _) rfl ?_
  refine at_iconst dX7_copyFrom_86 (v := nI 0) (by decide) ?_
  refine at_aload_n dX7_copyFrom_87 rfl ?_
  refine at_get dX7_copyFrom_88 fl_X7_31 zus_o rfl ?_
  refine at_iconst dX7_copyFrom_91 (v := nI 0) (by decide) ?_
  refine at_bipush dX7_copyFrom_92 (v := nI 6) (by decide) ?_
  refine at_copyi dX7_copyFrom_94 ac_X7_58 (hx _ _ _ 6 (by decide) (by decide)) (zus_a (c := 6) (by decide) (by decide)) (Nat.le_of_ble_eq_true rfl) (Nat.le_of_ble_eq_true rfl) (Nat.le_of_ble_eq_true rfl) (Nat.le_of_ble_eq_true rfl) (Nat.le_of_ble_eq_true rfl) ⟨by show 1 ≤ D; omega, by show 26 ≤ 60 * D; omega⟩ ?_
  rw [zus_ua (c := 6) (by decide) (by decide)]
  refine at_aload_n dX7_copyFrom_97 rfl ?_
  refine at_get dX7_copyFrom_98 fl_X7_34 (hxo _ _ _) rfl ?_
  refine at_iconst dX7_copyFrom_101 (v := nI 0) (by decide) ?_
  refine at_aload_n dX7_copyFrom_102 rfl ?_
  refine at_get dX7_copyFrom_103 fl_X7_34 zus_o rfl ?_
  refine at_iconst dX7_copyFrom_106 (v := nI 0) (by decide) ?_
  refine at_gets dX7_copyFrom_107 sl_X7_64 ?_
  refine at_tlen dX7_copyFrom_110 rfl (by decide) (v := nI 3) rfl ?_
  refine at_copyi dX7_copyFrom_111 ac_X7_58 (hx _ _ _ 7 (by decide) (by decide)) (zus_a (c := 7) (by decide) (by decide)) (Nat.le_of_ble_eq_true rfl) (Nat.le_of_ble_eq_true rfl) (Nat.le_of_ble_eq_true rfl) (Nat.le_of_ble_eq_true rfl) (Nat.le_of_ble_eq_true rfl) ⟨by show 1 ≤ D; omega, by show 26 ≤ 60 * D; omega⟩ ?_
  rw [zus_ua (c := 7) (by decide) (by decide)]
  refine at_aload_n dX7_copyFrom_114 rfl ?_
  refine at_aload_n dX7_copyFrom_115 rfl ?_
  refine at_get dX7_copyFrom_116 fl_X7_37 (hxo _ _ _) rfl ?_
  refine at_put dX7_copyFrom_119 (pl_X7_37 _) zus_o (Nat.le_of_ble_eq_true rfl) (fun _ => rfl) (fun _ => rfl) ?_
  rw [zus_ui (k := 8) (by decide)]
  refine at_aload_n dX7_copyFrom_122 rfl ?_
  refine at_get dX7_copyFrom_123 fl_X7_40 (hxo _ _ _) rfl ?_
  refine at_iconst dX7_copyFrom_126 (v := nI 0) (by decide) ?_
  refine at_aload_n dX7_copyFrom_127 rfl ?_
  refine at_get dX7_copyFrom_128 fl_X7_40 zus_o rfl ?_
  refine at_iconst dX7_copyFrom_131 (v := nI 0) (by decide) ?_
  refine at_bipush dX7_copyFrom_132 (v := nI 8) (by decide) ?_
  refine at_copyi dX7_copyFrom_134 ac_X7_58 (hx _ _ _ 8 (by decide) (by decide)) (zus_a (c := 8) (by decide) (by decide)) (Nat.le_of_ble_eq_true rfl) (Nat.le_of_ble_eq_true rfl) (Nat.le_of_ble_eq_true rfl) (Nat.le_of_ble_eq_true rfl) (Nat.le_of_ble_eq_true rfl) ⟨by show 1 ≤ D; omega, by show 26 ≤ 60 * D; omega⟩ ?_
  rw [zus_ua (c := 8) (by decide) (by decide)]
  refine at_aload_n dX7_copyFrom_137 rfl ?_
  refine at_get dX7_copyFrom_138 fl_X7_43 (hxo _ _ _) rfl ?_
  refine at_iconst dX7_copyFrom_141 (v := nI 0) (by decide) ?_
  refine at_aload_n dX7_copyFrom_142 rfl ?_
  refine at_get dX7_copyFrom_143 fl_X7_43 zus_o rfl ?_
  refine at_iconst dX7_copyFrom_146 (v := nI 0) (by decide) ?_
  refine at_bipush dX7_copyFrom_147 (v := nI 8) (by decide) ?_
  refine at_copyi dX7_copyFrom_149 ac_X7_58 (hx _ _ _ 9 (by decide) (by decide)) (zus_a (c := 9) (by decide) (by decide)) (Nat.le_of_ble_eq_true rfl) (Nat.le_of_ble_eq_true rfl) (Nat.le_of_ble_eq_true rfl) (Nat.le_of_ble_eq_true rfl) (Nat.le_of_ble_eq_true rfl) ⟨by show 1 ≤ D; omega, by show 26 ≤ 60 * D; omega⟩ ?_
  rw [zus_ua (c := 9) (by decide) (by decide)]
  refine at_aload_n dX7_copyFrom_152 rfl ?_
  refine at_aload_n dX7_copyFrom_153 rfl ?_
  refine at_get dX7_copyFrom_154 fl_X7_46 (hxo _ _ _) rfl ?_
  refine at_put dX7_copyFrom_157 (pl_X7_46 _) zus_o (Nat.le_of_ble_eq_true rfl) (fun _ => rfl) (fun _ => rfl) ?_
  rw [zus_ui (k := 11) (by decide)]
  refine at_iconst dX7_copyFrom_160 (v := nI 0) (by decide) ?_
  refine at_istore_n dX7_copyFrom_161 rfl (by decide) ?_
  refine zc_cp_texts hdis hO hT (fun T2 hT2 => ?_) 6 0 rfl T (fun j hj => absurd hj (Nat.not_lt_zero _))
  refine at_aload_n dX7_copyFrom_186 rfl ?_
  refine at_aload_n dX7_copyFrom_187 rfl ?_
  refine at_get dX7_copyFrom_188 fl_X7_55 (hxo _ _ _) rfl ?_
  refine at_put dX7_copyFrom_191 (pl_X7_55 _) zus_o (Nat.le_of_ble_eq_true rfl) (fun _ => rfl) (fun _ => rfl) ?_
  rw [zus_ui (k := 13) (by decide)]
  refine at_vret dX7_copyFrom_194 rfl (by omega) (by omega) ?_
  refine hp _ _ _ ⟨⟨rfl, rfl, rfl, rfl⟩, fun c j h1 h9 hj => ?_, hT2⟩
  rcases (show c = 1 ∨ c = 2 ∨ c = 3 ∨ c = 4 ∨ c = 5 ∨ c = 6 ∨ c = 7 ∨ c = 8 ∨ c = 9 by omega) with rfl | rfl | rfl | rfl | rfl | rfl | rfl | rfl | rfl <;> exact (if_pos ⟨Nat.zero_le _, by rw [Nat.zero_add]; exact hj⟩).trans (by rw [Nat.sub_zero, Nat.zero_add])
end ZC5

