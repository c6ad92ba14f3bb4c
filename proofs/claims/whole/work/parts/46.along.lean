/-! ===== the Model: orders, a clause gone along ===== -/
/-- an order: its kind (0 stroke, 1 swap, 2 decree, 3 pass), its sums, how often, its test -/
abbrev zOC : Type := Nat × (zX × zX × zX) × Nat × zX
def zhd (h : Nat) : Nat := if h = 0 then 22 else if h = 1 then 24 else if h = 2 then 25 else 26
def zSpO (cd vl : Nat → Nat) (c : zOC) (i j : Nat) : Prop :=
  ∃ k k', ((cd i = 22 ∧ c.1 = 0 ∧ ∃ a b, zSpS cd vl true 9 c.2.1.1 (i + 1) a ∧ cd a = 11 ∧ zSpS cd vl true 9 c.2.1.2.1 (a + 1) b ∧ cd b = 23 ∧ zSpS cd vl true 9 c.2.1.2.2 (b + 1) k) ∨
      ((c.1 = 1 ∨ c.1 = 2) ∧ cd i = zhd c.1 ∧ zSpS cd vl true 9 c.2.1.1 (i + 1) k ∧ c.2.1.2 = (zx_num 0, zx_num 0)) ∨
      (cd i = 26 ∧ c.1 = 3 ∧ k = i + 1 ∧ c.2.1 = (zx_num 0, zx_num 0, zx_num 0))) ∧
    ((cd k ≠ 27 ∧ c.2.2.1 = 1 ∧ k' = k) ∨ (cd k = 27 ∧ cd (k + 1) = 50 ∧ 1 ≤ vl (k + 1) ∧ vl (k + 1) ≤ 20 ∧ c.2.2.1 = vl (k + 1) ∧ k' = k + 2)) ∧
    ((cd k' ≠ 4 ∧ c.2.2.2 = zx_num 1 ∧ j = k') ∨ (cd k' = 4 ∧ zSpT cd vl true 9 c.2.2.2 (k' + 1) j))
def zSpOs (cd vl : Nat → Nat) (E : Nat) : List zOC → Nat → Prop
  | [], i => i = E + 1
  | c :: cs, i => ∃ j, zSpO cd vl c i j ∧ zSpOs cd vl E cs (j + 1)
theorem zgr_i (σ : zm_S) (i : Nat) (v : Int32) {k : Nat} (h1 : k ≠ 23) (h2 : k ≠ 25) (x : Int32) : zm_si (zgr σ i v) k x = zgr (zm_si σ k x) i v := by
  show (_, _) = (_, _)
  congr 1
  funext j
  by_cases a : j = 25
  · subst a; simp [zgr, zm_si, upd, Ne.symm h2]
  · by_cases b : j = 23
    · subst b; simp [zgr, zm_si, upd, Ne.symm h1]
    · by_cases c : j = k
      · subst c; simp [zgr, zm_si, upd, a, b]
      · simp [zgr, zm_si, upd, a, b, c]
theorem zgr_l (σ : zm_S) (i : Nat) (v : Int32) (a k : Nat) (x : Int64) : zm_sl (zgr σ i v) a k x = zgr (zm_sl σ a k x) i v := rfl
theorem zgr_s23 (σ : zm_S) (i j : Nat) (v : Int32) : zm_si (zgr σ i v) 23 (nI j) = zgr σ j v := by
  show (_, _) = (_, _)
  congr 1
  funext k
  by_cases h1 : k = 25
  · simp [upd, zm_si, zgr, h1]
  · by_cases h2 : k = 23 <;> simp [upd, zm_si, zgr, h1, h2]
theorem zgr_o (σ : zm_S) (i : Nat) (v : Int32) {k : Nat} (h1 : k ≠ 23) (h2 : k ≠ 25) : (zgr σ i v).1 k = σ.1 k := by simp [zgr, zm_si, upd, h1, h2]
theorem zgr_2 (σ : zm_S) (i : Nat) (v : Int32) : (zgr σ i v).2 = σ.2 := rfl
theorem zgr_self (σ : zm_S) (i : Nat) : zm_si σ 23 (nI i) = zgr σ i (σ.1 25) := by
  show (_, _) = (_, _)
  congr 1
  funext k
  by_cases h1 : k = 25
  · subst h1; simp [upd, zm_si, zgr]
  · by_cases h2 : k = 23 <;> simp [upd, zm_si, zgr, h1, h2]
/-- alike but for where orders are -/
def zGs (τ σ : zm_S) : Prop := (∀ k, (k < 23 ∨ 26 < k) → (k < 47 ∨ 50 < k) → τ.1 k = σ.1 k) ∧ τ.2.1 = σ.2.1
theorem zGs_r (σ : zm_S) : zGs σ σ := ⟨fun _ _ _ => rfl, rfl⟩
theorem zGs_t {σ τ υ : zm_S} (h : zGs σ τ) (g : zGs τ υ) : zGs σ υ := ⟨fun k h1 h2 => (h.1 k h1 h2).trans (g.1 k h1 h2), h.2.trans g.2⟩
theorem zGs_i {σ τ : zm_S} {k : Nat} {v : Int32} (hk : (23 ≤ k ∧ k ≤ 26) ∨ (47 ≤ k ∧ k ≤ 50)) (h : zGs σ τ) : zGs (zm_si σ k v) τ := ⟨fun j h1 h2 => by rw [zsi_o _ (by omega)]; exact h.1 j h1 h2, h.2⟩
theorem zGs_l {σ τ : zm_S} {a i : Nat} {v : Int64} (h : zGs σ τ) : zGs (zm_sl σ a i v) τ := h
theorem zGs_gr {σ τ : zm_S} {i : Nat} {v : Int32} (h : zGs σ τ) : zGs (zgr σ i v) τ := zGs_i (by omega) (zGs_i (by omega) h)
theorem zovV_c {σ τ : zm_S} (h : zGs τ σ) (m : Nat) (x w rk : Nat → Nat) : zovV τ m x w rk = zovV σ m x w rk := by
  unfold zovV
  rw [h.2, h.1 28 (by omega) (by omega), h.1 29 (by omega) (by omega)]
theorem zRun_c {σ τ : zm_S} {B E : Nat} {cd vl : Nat → Nat} {o : Bool} (h : zRun σ B E cd vl o) (h1 : τ.1 24 = σ.1 24) (h2 : τ.1 26 = σ.1 26) (h3 : τ.2.1 = σ.2.1) : zRun τ B E cd vl o := by
  unfold zRun
  rw [h1, h2, h3]
  exact h
theorem zovV_b {σ : zm_S} {m : Nat} {x w rk : Nat → Nat} (hC : zC σ m x w rk) (h19 : zSm (σ.2.1 72 19)) (h28 : zSm (σ.1 28)) (h29 : zSm (σ.1 29)) (c k : Nat) : -1000000000 ≤ zovV σ m x w rk c k ∧ zovV σ m x w rk c k ≤ 1000000000 := by
  unfold zovV
  have hm := hC.2.1
  split
  · exact h19
  · split
    · exact h28
    · split
      · exact h29
      · split
        · obtain ⟨d, hd, e, -⟩ := zrt_cnt rk x w hm
          rw [e, nI_toInt (by omega)]
          omega
        · split
          · have : zswO rk x w m m 0 0 ≤ 0 + m * m := by
              have key : ∀ k a c, zswO rk x w m k a c ≤ c + k * m := by
                intro k
                induction k with
                | zero => intro a c; show c ≤ _; omega
                | succ k ih =>
                  intro a c
                  have h1 := zswI_le rk x w a (m - (a + 1)) (a + 1) c
                  have h2 := ih (a + 1) (zswI rk x w a (m - (a + 1)) (a + 1) c)
                  rw [Nat.succ_mul]
                  show zswO rk x w m k (a + 1) _ ≤ _
                  omega
              exact key m 0 0
            have : m * m ≤ 7 * 7 := Nat.mul_le_mul hm hm
            omega
          · split
            · split
              · next h => have := (hC.2.2.2.1 k h).2; omega
              · omega
            · split
              · split
                · next h => have := (hC.2.2.1 k h).2.2.1; omega
                · omega
              · omega
theorem dX12_goesAlong_0 : decode cX12_goesAlong 0 = .ok (.aload_n 0, 1) := by decide +kernel
theorem dX12_goesAlong_1 : decode cX12_goesAlong 1 = .ok (.iconst 1, 1) := by decide +kernel
theorem dX12_goesAlong_2 : decode cX12_goesAlong 2 = .ok (.putfield 316, 3) := by decide +kernel
theorem dX12_goesAlong_5 : decode cX12_goesAlong 5 = .ok (.aload_n 0, 1) := by decide +kernel
theorem dX12_goesAlong_6 : decode cX12_goesAlong 6 = .ok (.iload_n 1, 1) := by decide +kernel
theorem dX12_goesAlong_7 : decode cX12_goesAlong 7 = .ok (.putfield 283, 3) := by decide +kernel
theorem dX12_goesAlong_10 : decode cX12_goesAlong 10 = .ok (.aload_n 0, 1) := by decide +kernel
theorem dX12_goesAlong_11 : decode cX12_goesAlong 11 = .ok (.aload_n 0, 1) := by decide +kernel
theorem dX12_goesAlong_12 : decode cX12_goesAlong 12 = .ok (.getfield 482, 3) := by decide +kernel
theorem dX12_goesAlong_15 : decode cX12_goesAlong 15 = .ok (.putfield 286, 3) := by decide +kernel
theorem dX12_goesAlong_18 : decode cX12_goesAlong 18 = .ok (.aload_n 0, 1) := by decide +kernel
theorem dX12_goesAlong_19 : decode cX12_goesAlong 19 = .ok (.aload_n 0, 1) := by decide +kernel
theorem dX12_goesAlong_20 : decode cX12_goesAlong 20 = .ok (.aload_n 0, 1) := by decide +kernel
theorem dX12_goesAlong_21 : decode cX12_goesAlong 21 = .ok (.getfield 286, 3) := by decide +kernel
theorem dX12_goesAlong_24 : decode cX12_goesAlong 24 = .ok (.invokevirtual 289, 3) := by decide +kernel
theorem dX12_goesAlong_27 : decode cX12_goesAlong 27 = .ok (.putfield 491, 3) := by decide +kernel
theorem dX12_goesAlong_30 : decode cX12_goesAlong 30 = .ok (.aload_n 0, 1) := by decide +kernel
theorem dX12_goesAlong_31 : decode cX12_goesAlong 31 = .ok (.dup, 1) := by decide +kernel
theorem dX12_goesAlong_32 : decode cX12_goesAlong 32 = .ok (.getfield 286, 3) := by decide +kernel
theorem dX12_goesAlong_35 : decode cX12_goesAlong 35 = .ok (.iconst 1, 1) := by decide +kernel
theorem dX12_goesAlong_36 : decode cX12_goesAlong 36 = .ok (.iadd, 1) := by decide +kernel
theorem dX12_goesAlong_37 : decode cX12_goesAlong 37 = .ok (.putfield 286, 3) := by decide +kernel
theorem dX12_goesAlong_40 : decode cX12_goesAlong 40 = .ok (.aload_n 0, 1) := by decide +kernel
theorem dX12_goesAlong_41 : decode cX12_goesAlong 41 = .ok (.iconst 1, 1) := by decide +kernel
theorem dX12_goesAlong_42 : decode cX12_goesAlong 42 = .ok (.putfield 494, 3) := by decide +kernel
theorem dX12_goesAlong_45 : decode cX12_goesAlong 45 = .ok (.aload_n 0, 1) := by decide +kernel
theorem dX12_goesAlong_46 : decode cX12_goesAlong 46 = .ok (.getfield 491, 3) := by decide +kernel
theorem dX12_goesAlong_49 : decode cX12_goesAlong 49 = .ok (.bipush 26, 2) := by decide +kernel
theorem dX12_goesAlong_51 : decode cX12_goesAlong 51 = .ok (.if_icmp .ne 7, 3) := by decide +kernel
theorem dX12_goesAlong_54 : decode cX12_goesAlong 54 = .ok (.iconst 0, 1) := by decide +kernel
theorem dX12_goesAlong_55 : decode cX12_goesAlong 55 = .ok (.goto 17, 3) := by decide +kernel
theorem dX12_goesAlong_58 : decode cX12_goesAlong 58 = .ok (.aload_n 0, 1) := by decide +kernel
theorem dX12_goesAlong_59 : decode cX12_goesAlong 59 = .ok (.getfield 491, 3) := by decide +kernel
theorem dX12_goesAlong_62 : decode cX12_goesAlong 62 = .ok (.bipush 22, 2) := by decide +kernel
theorem dX12_goesAlong_64 : decode cX12_goesAlong 64 = .ok (.if_icmp .ne 7, 3) := by decide +kernel
theorem dX12_goesAlong_67 : decode cX12_goesAlong 67 = .ok (.iconst 3, 1) := by decide +kernel
theorem dX12_goesAlong_68 : decode cX12_goesAlong 68 = .ok (.goto 4, 3) := by decide +kernel
theorem dX12_goesAlong_71 : decode cX12_goesAlong 71 = .ok (.iconst 1, 1) := by decide +kernel
theorem dX12_goesAlong_72 : decode cX12_goesAlong 72 = .ok (.istore_n 3, 1) := by decide +kernel
theorem dX12_goesAlong_73 : decode cX12_goesAlong 73 = .ok (.iconst 0, 1) := by decide +kernel
theorem dX12_goesAlong_74 : decode cX12_goesAlong 74 = .ok (.istore 4, 2) := by decide +kernel
theorem dX12_goesAlong_76 : decode cX12_goesAlong 76 = .ok (.iload 4, 2) := by decide +kernel
theorem dX12_goesAlong_78 : decode cX12_goesAlong 78 = .ok (.iload_n 3, 1) := by decide +kernel
theorem dX12_goesAlong_79 : decode cX12_goesAlong 79 = .ok (.if_icmp .ge 64, 3) := by decide +kernel
theorem dX12_goesAlong_82 : decode cX12_goesAlong 82 = .ok (.iload 4, 2) := by decide +kernel
theorem dX12_goesAlong_84 : decode cX12_goesAlong 84 = .ok (.ifCond .le 13, 3) := by decide +kernel
theorem dX12_goesAlong_87 : decode cX12_goesAlong 87 = .ok (.aload_n 0, 1) := by decide +kernel
theorem dX12_goesAlong_88 : decode cX12_goesAlong 88 = .ok (.dup, 1) := by decide +kernel
theorem dX12_goesAlong_89 : decode cX12_goesAlong 89 = .ok (.getfield 286, 3) := by decide +kernel
theorem dX12_goesAlong_92 : decode cX12_goesAlong 92 = .ok (.iconst 1, 1) := by decide +kernel
theorem dX12_goesAlong_93 : decode cX12_goesAlong 93 = .ok (.iadd, 1) := by decide +kernel
theorem dX12_goesAlong_94 : decode cX12_goesAlong 94 = .ok (.putfield 286, 3) := by decide +kernel
theorem dX12_goesAlong_97 : decode cX12_goesAlong 97 = .ok (.aload_n 0, 1) := by decide +kernel
theorem dX12_goesAlong_98 : decode cX12_goesAlong 98 = .ok (.iconst 0, 1) := by decide +kernel
theorem dX12_goesAlong_99 : decode cX12_goesAlong 99 = .ok (.putfield 296, 3) := by decide +kernel
theorem dX12_goesAlong_102 : decode cX12_goesAlong 102 = .ok (.aload_n 0, 1) := by decide +kernel
theorem dX12_goesAlong_103 : decode cX12_goesAlong 103 = .ok (.getfield 123, 3) := by decide +kernel
theorem dX12_goesAlong_106 : decode cX12_goesAlong 106 = .ok (.iload 4, 2) := by decide +kernel
theorem dX12_goesAlong_108 : decode cX12_goesAlong 108 = .ok (.aload_n 0, 1) := by decide +kernel
theorem dX12_goesAlong_109 : decode cX12_goesAlong 109 = .ok (.iload_n 2, 1) := by decide +kernel
theorem dX12_goesAlong_110 : decode cX12_goesAlong 110 = .ok (.invokevirtual 313, 3) := by decide +kernel
theorem dX12_goesAlong_113 : decode cX12_goesAlong 113 = .ok (.lastore, 1) := by decide +kernel
theorem dX12_goesAlong_114 : decode cX12_goesAlong 114 = .ok (.aload_n 0, 1) := by decide +kernel
theorem dX12_goesAlong_115 : decode cX12_goesAlong 115 = .ok (.aload_n 0, 1) := by decide +kernel
theorem dX12_goesAlong_116 : decode cX12_goesAlong 116 = .ok (.getfield 494, 3) := by decide +kernel
theorem dX12_goesAlong_119 : decode cX12_goesAlong 119 = .ok (.ifCond .eq 14, 3) := by decide +kernel
theorem dX12_goesAlong_122 : decode cX12_goesAlong 122 = .ok (.aload_n 0, 1) := by decide +kernel
theorem dX12_goesAlong_123 : decode cX12_goesAlong 123 = .ok (.getfield 296, 3) := by decide +kernel
theorem dX12_goesAlong_126 : decode cX12_goesAlong 126 = .ok (.ifCond .ne 7, 3) := by decide +kernel
theorem dX12_goesAlong_129 : decode cX12_goesAlong 129 = .ok (.iconst 1, 1) := by decide +kernel
theorem dX12_goesAlong_130 : decode cX12_goesAlong 130 = .ok (.goto 4, 3) := by decide +kernel
theorem dX12_goesAlong_133 : decode cX12_goesAlong 133 = .ok (.iconst 0, 1) := by decide +kernel
theorem dX12_goesAlong_134 : decode cX12_goesAlong 134 = .ok (.putfield 494, 3) := by decide +kernel
theorem dX12_goesAlong_137 : decode cX12_goesAlong 137 = .ok (.iinc 4 1, 3) := by decide +kernel
theorem dX12_goesAlong_140 : decode cX12_goesAlong 140 = .ok (.goto (-64), 3) := by decide +kernel
theorem dX12_goesAlong_143 : decode cX12_goesAlong 143 = .ok (.aload_n 0, 1) := by decide +kernel
theorem dX12_goesAlong_144 : decode cX12_goesAlong 144 = .ok (.iconst 1, 1) := by decide +kernel
theorem dX12_goesAlong_145 : decode cX12_goesAlong 145 = .ok (.putfield 497, 3) := by decide +kernel
theorem dX12_goesAlong_148 : decode cX12_goesAlong 148 = .ok (.aload_n 0, 1) := by decide +kernel
theorem dX12_goesAlong_149 : decode cX12_goesAlong 149 = .ok (.bipush 27, 2) := by decide +kernel
theorem dX12_goesAlong_151 : decode cX12_goesAlong 151 = .ok (.invokevirtual 310, 3) := by decide +kernel
theorem dX12_goesAlong_154 : decode cX12_goesAlong 154 = .ok (.ifCond .eq 30, 3) := by decide +kernel
theorem dX12_goesAlong_157 : decode cX12_goesAlong 157 = .ok (.aload_n 0, 1) := by decide +kernel
theorem dX12_goesAlong_158 : decode cX12_goesAlong 158 = .ok (.aload_n 0, 1) := by decide +kernel
theorem dX12_goesAlong_159 : decode cX12_goesAlong 159 = .ok (.getfield 42, 3) := by decide +kernel
theorem dX12_goesAlong_162 : decode cX12_goesAlong 162 = .ok (.sipush 2884, 3) := by decide +kernel
theorem dX12_goesAlong_165 : decode cX12_goesAlong 165 = .ok (.aload_n 0, 1) := by decide +kernel
theorem dX12_goesAlong_166 : decode cX12_goesAlong 166 = .ok (.getfield 286, 3) := by decide +kernel
theorem dX12_goesAlong_169 : decode cX12_goesAlong 169 = .ok (.iadd, 1) := by decide +kernel
theorem dX12_goesAlong_170 : decode cX12_goesAlong 170 = .ok (.iaload, 1) := by decide +kernel
theorem dX12_goesAlong_171 : decode cX12_goesAlong 171 = .ok (.putfield 497, 3) := by decide +kernel
theorem dX12_goesAlong_174 : decode cX12_goesAlong 174 = .ok (.aload_n 0, 1) := by decide +kernel
theorem dX12_goesAlong_175 : decode cX12_goesAlong 175 = .ok (.dup, 1) := by decide +kernel
theorem dX12_goesAlong_176 : decode cX12_goesAlong 176 = .ok (.getfield 286, 3) := by decide +kernel
theorem dX12_goesAlong_179 : decode cX12_goesAlong 179 = .ok (.iconst 1, 1) := by decide +kernel
theorem dX12_goesAlong_180 : decode cX12_goesAlong 180 = .ok (.iadd, 1) := by decide +kernel
theorem dX12_goesAlong_181 : decode cX12_goesAlong 181 = .ok (.putfield 286, 3) := by decide +kernel
theorem dX12_goesAlong_184 : decode cX12_goesAlong 184 = .ok (.aload_n 0, 1) := by decide +kernel
theorem dX12_goesAlong_185 : decode cX12_goesAlong 185 = .ok (.iconst 0, 1) := by decide +kernel
theorem dX12_goesAlong_186 : decode cX12_goesAlong 186 = .ok (.putfield 296, 3) := by decide +kernel
theorem dX12_goesAlong_189 : decode cX12_goesAlong 189 = .ok (.aload_n 0, 1) := by decide +kernel
theorem dX12_goesAlong_190 : decode cX12_goesAlong 190 = .ok (.aload_n 0, 1) := by decide +kernel
theorem dX12_goesAlong_191 : decode cX12_goesAlong 191 = .ok (.iconst 4, 1) := by decide +kernel
theorem dX12_goesAlong_192 : decode cX12_goesAlong 192 = .ok (.invokevirtual 310, 3) := by decide +kernel
theorem dX12_goesAlong_195 : decode cX12_goesAlong 195 = .ok (.ifCond .eq 11, 3) := by decide +kernel
theorem dX12_goesAlong_198 : decode cX12_goesAlong 198 = .ok (.aload_n 0, 1) := by decide +kernel
theorem dX12_goesAlong_199 : decode cX12_goesAlong 199 = .ok (.iload_n 2, 1) := by decide +kernel
theorem dX12_goesAlong_200 : decode cX12_goesAlong 200 = .ok (.invokevirtual 349, 3) := by decide +kernel
theorem dX12_goesAlong_203 : decode cX12_goesAlong 203 = .ok (.ifCond .eq 7, 3) := by decide +kernel
theorem dX12_goesAlong_206 : decode cX12_goesAlong 206 = .ok (.iconst 1, 1) := by decide +kernel
theorem dX12_goesAlong_207 : decode cX12_goesAlong 207 = .ok (.goto 4, 3) := by decide +kernel
theorem dX12_goesAlong_210 : decode cX12_goesAlong 210 = .ok (.iconst 0, 1) := by decide +kernel
theorem dX12_goesAlong_211 : decode cX12_goesAlong 211 = .ok (.putfield 500, 3) := by decide +kernel
theorem dX12_goesAlong_214 : decode cX12_goesAlong 214 = .ok (.aload_n 0, 1) := by decide +kernel
theorem dX12_goesAlong_215 : decode cX12_goesAlong 215 = .ok (.aload_n 0, 1) := by decide +kernel
theorem dX12_goesAlong_216 : decode cX12_goesAlong 216 = .ok (.getfield 500, 3) := by decide +kernel
theorem dX12_goesAlong_219 : decode cX12_goesAlong 219 = .ok (.ifCond .eq 14, 3) := by decide +kernel
theorem dX12_goesAlong_222 : decode cX12_goesAlong 222 = .ok (.aload_n 0, 1) := by decide +kernel
theorem dX12_goesAlong_223 : decode cX12_goesAlong 223 = .ok (.getfield 296, 3) := by decide +kernel
theorem dX12_goesAlong_226 : decode cX12_goesAlong 226 = .ok (.ifCond .ne 7, 3) := by decide +kernel
theorem dX12_goesAlong_229 : decode cX12_goesAlong 229 = .ok (.iconst 1, 1) := by decide +kernel
theorem dX12_goesAlong_230 : decode cX12_goesAlong 230 = .ok (.goto 4, 3) := by decide +kernel
theorem dX12_goesAlong_233 : decode cX12_goesAlong 233 = .ok (.iconst 0, 1) := by decide +kernel
theorem dX12_goesAlong_234 : decode cX12_goesAlong 234 = .ok (.putfield 500, 3) := by decide +kernel
theorem dX12_goesAlong_237 : decode cX12_goesAlong 237 = .ok (.aload_n 0, 1) := by decide +kernel
theorem dX12_goesAlong_238 : decode cX12_goesAlong 238 = .ok (.dup, 1) := by decide +kernel
theorem dX12_goesAlong_239 : decode cX12_goesAlong 239 = .ok (.getfield 286, 3) := by decide +kernel
theorem dX12_goesAlong_242 : decode cX12_goesAlong 242 = .ok (.iconst 1, 1) := by decide +kernel
theorem dX12_goesAlong_243 : decode cX12_goesAlong 243 = .ok (.iadd, 1) := by decide +kernel
theorem dX12_goesAlong_244 : decode cX12_goesAlong 244 = .ok (.putfield 286, 3) := by decide +kernel
theorem dX12_goesAlong_247 : decode cX12_goesAlong 247 = .ok (.return_, 1) := by decide +kernel
abbrev mX12_goesAlong : zq_M := (cX12_goesAlong, RX12, "goesAlong", none, 5)
theorem dX12_small_0 : decode cX12_small 0 = .ok (.lload_n 0, 1) := by decide +kernel
theorem dX12_small_1 : decode cX12_small 1 = .ok (.lconst 0, 1) := by decide +kernel
theorem dX12_small_2 : decode cX12_small 2 = .ok (.lcmp, 1) := by decide +kernel
theorem dX12_small_3 : decode cX12_small 3 = .ok (.ifCond .lt 11, 3) := by decide +kernel
theorem dX12_small_6 : decode cX12_small 6 = .ok (.lload_n 0, 1) := by decide +kernel
theorem dX12_small_7 : decode cX12_small 7 = .ok (.ldc2_w 503, 3) := by decide +kernel
theorem dX12_small_10 : decode cX12_small 10 = .ok (.lcmp, 1) := by decide +kernel
theorem dX12_small_11 : decode cX12_small 11 = .ok (.ifCond .le 7, 3) := by decide +kernel
theorem dX12_small_14 : decode cX12_small 14 = .ok (.iconst (-1), 1) := by decide +kernel
theorem dX12_small_15 : decode cX12_small 15 = .ok (.goto 5, 3) := by decide +kernel
theorem dX12_small_18 : decode cX12_small 18 = .ok (.lload_n 0, 1) := by decide +kernel
theorem dX12_small_19 : decode cX12_small 19 = .ok (.l2i, 1) := by decide +kernel
theorem dX12_small_20 : decode cX12_small 20 = .ok (.ireturn, 1) := by decide +kernel
abbrev mX12_small : zq_M := (cX12_small, RX12, "small", (some .int), 2)
theorem dX12_obeys_0 : decode cX12_obeys 0 = .ok (.aload_n 0, 1) := by decide +kernel
theorem dX12_obeys_1 : decode cX12_obeys 1 = .ok (.getfield 123, 3) := by decide +kernel
theorem dX12_obeys_4 : decode cX12_obeys 4 = .ok (.iconst 0, 1) := by decide +kernel
theorem dX12_obeys_5 : decode cX12_obeys 5 = .ok (.laload, 1) := by decide +kernel
theorem dX12_obeys_6 : decode cX12_obeys 6 = .ok (.invokestatic 505, 3) := by decide +kernel
theorem dX12_obeys_9 : decode cX12_obeys 9 = .ok (.istore_n 1, 1) := by decide +kernel
theorem dX12_obeys_10 : decode cX12_obeys 10 = .ok (.aload_n 0, 1) := by decide +kernel
theorem dX12_obeys_11 : decode cX12_obeys 11 = .ok (.getfield 491, 3) := by decide +kernel
theorem dX12_obeys_14 : decode cX12_obeys 14 = .ok (.tableswitch 43 24 26 #[26, 32, 38], 26) := by decide +kernel
theorem dX12_obeys_40 : decode cX12_obeys 40 = .ok (.aload_n 0, 1) := by decide +kernel
theorem dX12_obeys_41 : decode cX12_obeys 41 = .ok (.iload_n 1, 1) := by decide +kernel
theorem dX12_obeys_42 : decode cX12_obeys 42 = .ok (.invokevirtual 470, 3) := by decide +kernel
theorem dX12_obeys_45 : decode cX12_obeys 45 = .ok (.ireturn, 1) := by decide +kernel
theorem dX12_obeys_46 : decode cX12_obeys 46 = .ok (.aload_n 0, 1) := by decide +kernel
theorem dX12_obeys_47 : decode cX12_obeys 47 = .ok (.iload_n 1, 1) := by decide +kernel
theorem dX12_obeys_48 : decode cX12_obeys 48 = .ok (.invokevirtual 473, 3) := by decide +kernel
theorem dX12_obeys_51 : decode cX12_obeys 51 = .ok (.ireturn, 1) := by decide +kernel
theorem dX12_obeys_52 : decode cX12_obeys 52 = .ok (.aload_n 0, 1) := by decide +kernel
theorem dX12_obeys_53 : decode cX12_obeys 53 = .ok (.invokevirtual 476, 3) := by decide +kernel
theorem dX12_obeys_56 : decode cX12_obeys 56 = .ok (.ireturn, 1) := by decide +kernel
theorem dX12_obeys_57 : decode cX12_obeys 57 = .ok (.aload_n 0, 1) := by decide +kernel
theorem dX12_obeys_58 : decode cX12_obeys 58 = .ok (.iload_n 1, 1) := by decide +kernel
theorem dX12_obeys_59 : decode cX12_obeys 59 = .ok (.aload_n 0, 1) := by decide +kernel
theorem dX12_obeys_60 : decode cX12_obeys 60 = .ok (.getfield 123, 3) := by decide +kernel
theorem dX12_obeys_63 : decode cX12_obeys 63 = .ok (.iconst 1, 1) := by decide +kernel
theorem dX12_obeys_64 : decode cX12_obeys 64 = .ok (.laload, 1) := by decide +kernel
theorem dX12_obeys_65 : decode cX12_obeys 65 = .ok (.invokestatic 505, 3) := by decide +kernel
theorem dX12_obeys_68 : decode cX12_obeys 68 = .ok (.aload_n 0, 1) := by decide +kernel
theorem dX12_obeys_69 : decode cX12_obeys 69 = .ok (.getfield 123, 3) := by decide +kernel
theorem dX12_obeys_72 : decode cX12_obeys 72 = .ok (.iconst 2, 1) := by decide +kernel
theorem dX12_obeys_73 : decode cX12_obeys 73 = .ok (.laload, 1) := by decide +kernel
theorem dX12_obeys_74 : decode cX12_obeys 74 = .ok (.invokestatic 505, 3) := by decide +kernel
theorem dX12_obeys_77 : decode cX12_obeys 77 = .ok (.invokevirtual 464, 3) := by decide +kernel
theorem dX12_obeys_80 : decode cX12_obeys 80 = .ok (.istore_n 2, 1) := by decide +kernel
theorem dX12_obeys_81 : decode cX12_obeys 81 = .ok (.aload_n 0, 1) := by decide +kernel
theorem dX12_obeys_82 : decode cX12_obeys 82 = .ok (.iload_n 2, 1) := by decide +kernel
theorem dX12_obeys_83 : decode cX12_obeys 83 = .ok (.ifCond .ge 10, 3) := by decide +kernel
theorem dX12_obeys_86 : decode cX12_obeys 86 = .ok (.aload_n 0, 1) := by decide +kernel
theorem dX12_obeys_87 : decode cX12_obeys 87 = .ok (.getfield 331, 3) := by decide +kernel
theorem dX12_obeys_90 : decode cX12_obeys 90 = .ok (.goto 4, 3) := by decide +kernel
theorem dX12_obeys_93 : decode cX12_obeys 93 = .ok (.iload_n 2, 1) := by decide +kernel
theorem dX12_obeys_94 : decode cX12_obeys 94 = .ok (.putfield 331, 3) := by decide +kernel
theorem dX12_obeys_97 : decode cX12_obeys 97 = .ok (.iload_n 2, 1) := by decide +kernel
theorem dX12_obeys_98 : decode cX12_obeys 98 = .ok (.ireturn, 1) := by decide +kernel
abbrev mX12_obeys : zq_M := (cX12_obeys, RX12, "obeys", (some .int), 3)
theorem dX12_runs_0 : decode cX12_runs 0 = .ok (.aload_n 0, 1) := by decide +kernel
theorem dX12_runs_1 : decode cX12_runs 1 = .ok (.iload_n 1, 1) := by decide +kernel
theorem dX12_runs_2 : decode cX12_runs 2 = .ok (.iconst 0, 1) := by decide +kernel
theorem dX12_runs_3 : decode cX12_runs 3 = .ok (.invokevirtual 509, 3) := by decide +kernel
theorem dX12_runs_6 : decode cX12_runs 6 = .ok (.aload_n 0, 1) := by decide +kernel
theorem dX12_runs_7 : decode cX12_runs 7 = .ok (.getfield 497, 3) := by decide +kernel
theorem dX12_runs_10 : decode cX12_runs 10 = .ok (.istore_n 2, 1) := by decide +kernel
theorem dX12_runs_11 : decode cX12_runs 11 = .ok (.aload_n 0, 1) := by decide +kernel
theorem dX12_runs_12 : decode cX12_runs 12 = .ok (.getfield 286, 3) := by decide +kernel
theorem dX12_runs_15 : decode cX12_runs 15 = .ok (.istore_n 3, 1) := by decide +kernel
theorem dX12_runs_16 : decode cX12_runs 16 = .ok (.iconst 0, 1) := by decide +kernel
theorem dX12_runs_17 : decode cX12_runs 17 = .ok (.istore 4, 2) := by decide +kernel
theorem dX12_runs_19 : decode cX12_runs 19 = .ok (.iload 4, 2) := by decide +kernel
theorem dX12_runs_21 : decode cX12_runs 21 = .ok (.iload_n 2, 1) := by decide +kernel
theorem dX12_runs_22 : decode cX12_runs 22 = .ok (.if_icmp .ge 51, 3) := by decide +kernel
theorem dX12_runs_25 : decode cX12_runs 25 = .ok (.aload_n 0, 1) := by decide +kernel
theorem dX12_runs_26 : decode cX12_runs 26 = .ok (.iload_n 1, 1) := by decide +kernel
theorem dX12_runs_27 : decode cX12_runs 27 = .ok (.iconst 1, 1) := by decide +kernel
theorem dX12_runs_28 : decode cX12_runs 28 = .ok (.invokevirtual 509, 3) := by decide +kernel
theorem dX12_runs_31 : decode cX12_runs 31 = .ok (.aload_n 0, 1) := by decide +kernel
theorem dX12_runs_32 : decode cX12_runs 32 = .ok (.getfield 500, 3) := by decide +kernel
theorem dX12_runs_35 : decode cX12_runs 35 = .ok (.ifCond .ne 6, 3) := by decide +kernel
theorem dX12_runs_38 : decode cX12_runs 38 = .ok (.goto 29, 3) := by decide +kernel
theorem dX12_runs_41 : decode cX12_runs 41 = .ok (.aload_n 0, 1) := by decide +kernel
theorem dX12_runs_42 : decode cX12_runs 42 = .ok (.getfield 494, 3) := by decide +kernel
theorem dX12_runs_45 : decode cX12_runs 45 = .ok (.ifCond .eq 10, 3) := by decide +kernel
theorem dX12_runs_48 : decode cX12_runs 48 = .ok (.aload_n 0, 1) := by decide +kernel
theorem dX12_runs_49 : decode cX12_runs 49 = .ok (.invokevirtual 513, 3) := by decide +kernel
theorem dX12_runs_52 : decode cX12_runs 52 = .ok (.ifCond .ge 5, 3) := by decide +kernel
theorem dX12_runs_55 : decode cX12_runs 55 = .ok (.iconst 0, 1) := by decide +kernel
theorem dX12_runs_56 : decode cX12_runs 56 = .ok (.ireturn, 1) := by decide +kernel
theorem dX12_runs_57 : decode cX12_runs 57 = .ok (.aload_n 0, 1) := by decide +kernel
theorem dX12_runs_58 : decode cX12_runs 58 = .ok (.dup, 1) := by decide +kernel
theorem dX12_runs_59 : decode cX12_runs 59 = .ok (.getfield 328, 3) := by decide +kernel
theorem dX12_runs_62 : decode cX12_runs 62 = .ok (.iconst 1, 1) := by decide +kernel
theorem dX12_runs_63 : decode cX12_runs 63 = .ok (.iadd, 1) := by decide +kernel
theorem dX12_runs_64 : decode cX12_runs 64 = .ok (.putfield 328, 3) := by decide +kernel
theorem dX12_runs_67 : decode cX12_runs 67 = .ok (.iinc 4 1, 3) := by decide +kernel
theorem dX12_runs_70 : decode cX12_runs 70 = .ok (.goto (-51), 3) := by decide +kernel
theorem dX12_runs_73 : decode cX12_runs 73 = .ok (.aload_n 0, 1) := by decide +kernel
theorem dX12_runs_74 : decode cX12_runs 74 = .ok (.iload_n 3, 1) := by decide +kernel
theorem dX12_runs_75 : decode cX12_runs 75 = .ok (.putfield 482, 3) := by decide +kernel
theorem dX12_runs_78 : decode cX12_runs 78 = .ok (.iconst 1, 1) := by decide +kernel
theorem dX12_runs_79 : decode cX12_runs 79 = .ok (.ireturn, 1) := by decide +kernel
abbrev mX12_runs : zq_M := (cX12_runs, RX12, "runs", (some .boolean), 5)
theorem dX12_orders_0 : decode cX12_orders 0 = .ok (.aload_n 0, 1) := by decide +kernel
theorem dX12_orders_1 : decode cX12_orders 1 = .ok (.iconst (-1), 1) := by decide +kernel
theorem dX12_orders_2 : decode cX12_orders 2 = .ok (.putfield 120, 3) := by decide +kernel
theorem dX12_orders_5 : decode cX12_orders 5 = .ok (.aload_n 0, 1) := by decide +kernel
theorem dX12_orders_6 : decode cX12_orders 6 = .ok (.iconst 1, 1) := by decide +kernel
theorem dX12_orders_7 : decode cX12_orders 7 = .ok (.invokevirtual 273, 3) := by decide +kernel
theorem dX12_orders_10 : decode cX12_orders 10 = .ok (.ifCond .ne 10, 3) := by decide +kernel
theorem dX12_orders_13 : decode cX12_orders 13 = .ok (.aload_n 0, 1) := by decide +kernel
theorem dX12_orders_14 : decode cX12_orders 14 = .ok (.bipush (-6), 2) := by decide +kernel
theorem dX12_orders_16 : decode cX12_orders 16 = .ok (.invokevirtual 135, 3) := by decide +kernel
theorem dX12_orders_19 : decode cX12_orders 19 = .ok (.ireturn, 1) := by decide +kernel
theorem dX12_orders_20 : decode cX12_orders 20 = .ok (.aload_n 0, 1) := by decide +kernel
theorem dX12_orders_21 : decode cX12_orders 21 = .ok (.iconst 1, 1) := by decide +kernel
theorem dX12_orders_22 : decode cX12_orders 22 = .ok (.invokevirtual 479, 3) := by decide +kernel
theorem dX12_orders_25 : decode cX12_orders 25 = .ok (.iconst 0, 1) := by decide +kernel
theorem dX12_orders_26 : decode cX12_orders 26 = .ok (.istore_n 1, 1) := by decide +kernel
theorem dX12_orders_27 : decode cX12_orders 27 = .ok (.iload_n 1, 1) := by decide +kernel
theorem dX12_orders_28 : decode cX12_orders 28 = .ok (.sipush 336, 3) := by decide +kernel
theorem dX12_orders_31 : decode cX12_orders 31 = .ok (.if_icmp .ge 21, 3) := by decide +kernel
theorem dX12_orders_34 : decode cX12_orders 34 = .ok (.aload_n 0, 1) := by decide +kernel
theorem dX12_orders_35 : decode cX12_orders 35 = .ok (.getfield 117, 3) := by decide +kernel
theorem dX12_orders_38 : decode cX12_orders 38 = .ok (.iload_n 1, 1) := by decide +kernel
theorem dX12_orders_39 : decode cX12_orders 39 = .ok (.aload_n 0, 1) := by decide +kernel
theorem dX12_orders_40 : decode cX12_orders 40 = .ok (.getfield 114, 3) := by decide +kernel
theorem dX12_orders_43 : decode cX12_orders 43 = .ok (.iload_n 1, 1) := by decide +kernel
theorem dX12_orders_44 : decode cX12_orders 44 = .ok (.iaload, 1) := by decide +kernel
theorem dX12_orders_45 : decode cX12_orders 45 = .ok (.iastore, 1) := by decide +kernel
theorem dX12_orders_46 : decode cX12_orders 46 = .ok (.iinc 1 1, 3) := by decide +kernel
theorem dX12_orders_49 : decode cX12_orders 49 = .ok (.goto (-22), 3) := by decide +kernel
theorem dX12_orders_52 : decode cX12_orders 52 = .ok (.aload_n 0, 1) := by decide +kernel
theorem dX12_orders_53 : decode cX12_orders 53 = .ok (.getfield 11, 3) := by decide +kernel
theorem dX12_orders_56 : decode cX12_orders 56 = .ok (.istore_n 1, 1) := by decide +kernel
theorem dX12_orders_57 : decode cX12_orders 57 = .ok (.aload_n 0, 1) := by decide +kernel
theorem dX12_orders_58 : decode cX12_orders 58 = .ok (.bipush 6, 2) := by decide +kernel
theorem dX12_orders_60 : decode cX12_orders 60 = .ok (.invokevirtual 277, 3) := by decide +kernel
theorem dX12_orders_63 : decode cX12_orders 63 = .ok (.aload_n 0, 1) := by decide +kernel
theorem dX12_orders_64 : decode cX12_orders 64 = .ok (.iconst 0, 1) := by decide +kernel
theorem dX12_orders_65 : decode cX12_orders 65 = .ok (.putfield 328, 3) := by decide +kernel
theorem dX12_orders_68 : decode cX12_orders 68 = .ok (.aload_n 0, 1) := by decide +kernel
theorem dX12_orders_69 : decode cX12_orders 69 = .ok (.iconst (-1), 1) := by decide +kernel
theorem dX12_orders_70 : decode cX12_orders 70 = .ok (.putfield 331, 3) := by decide +kernel
theorem dX12_orders_73 : decode cX12_orders 73 = .ok (.aload_n 0, 1) := by decide +kernel
theorem dX12_orders_74 : decode cX12_orders 74 = .ok (.sipush 2400, 3) := by decide +kernel
theorem dX12_orders_77 : decode cX12_orders 77 = .ok (.putfield 482, 3) := by decide +kernel
theorem dX12_orders_80 : decode cX12_orders 80 = .ok (.aload_n 0, 1) := by decide +kernel
theorem dX12_orders_81 : decode cX12_orders 81 = .ok (.getfield 482, 3) := by decide +kernel
theorem dX12_orders_84 : decode cX12_orders 84 = .ok (.aload_n 0, 1) := by decide +kernel
theorem dX12_orders_85 : decode cX12_orders 85 = .ok (.getfield 42, 3) := by decide +kernel
theorem dX12_orders_88 : decode cX12_orders 88 = .ok (.bipush 83, 2) := by decide +kernel
theorem dX12_orders_90 : decode cX12_orders 90 = .ok (.iaload, 1) := by decide +kernel
theorem dX12_orders_91 : decode cX12_orders 91 = .ok (.iadd, 1) := by decide +kernel
theorem dX12_orders_92 : decode cX12_orders 92 = .ok (.istore_n 2, 1) := by decide +kernel
theorem dX12_orders_93 : decode cX12_orders 93 = .ok (.iconst 0, 1) := by decide +kernel
theorem dX12_orders_94 : decode cX12_orders 94 = .ok (.istore_n 3, 1) := by decide +kernel
theorem dX12_orders_95 : decode cX12_orders 95 = .ok (.aload_n 0, 1) := by decide +kernel
theorem dX12_orders_96 : decode cX12_orders 96 = .ok (.getfield 482, 3) := by decide +kernel
theorem dX12_orders_99 : decode cX12_orders 99 = .ok (.iload_n 2, 1) := by decide +kernel
theorem dX12_orders_100 : decode cX12_orders 100 = .ok (.if_icmp .ge 73, 3) := by decide +kernel
theorem dX12_orders_103 : decode cX12_orders 103 = .ok (.aload_n 0, 1) := by decide +kernel
theorem dX12_orders_104 : decode cX12_orders 104 = .ok (.iload_n 2, 1) := by decide +kernel
theorem dX12_orders_105 : decode cX12_orders 105 = .ok (.invokevirtual 485, 3) := by decide +kernel
theorem dX12_orders_108 : decode cX12_orders 108 = .ok (.ifCond .eq 6, 3) := by decide +kernel
theorem dX12_orders_111 : decode cX12_orders 111 = .ok (.goto 56, 3) := by decide +kernel
theorem dX12_orders_114 : decode cX12_orders 114 = .ok (.aload_n 0, 1) := by decide +kernel
theorem dX12_orders_115 : decode cX12_orders 115 = .ok (.iconst 1, 1) := by decide +kernel
theorem dX12_orders_116 : decode cX12_orders 116 = .ok (.invokevirtual 488, 3) := by decide +kernel
theorem dX12_orders_119 : decode cX12_orders 119 = .ok (.iconst 0, 1) := by decide +kernel
theorem dX12_orders_120 : decode cX12_orders 120 = .ok (.istore 4, 2) := by decide +kernel
theorem dX12_orders_122 : decode cX12_orders 122 = .ok (.iload 4, 2) := by decide +kernel
theorem dX12_orders_124 : decode cX12_orders 124 = .ok (.sipush 336, 3) := by decide +kernel
theorem dX12_orders_127 : decode cX12_orders 127 = .ok (.if_icmp .ge 23, 3) := by decide +kernel
theorem dX12_orders_130 : decode cX12_orders 130 = .ok (.aload_n 0, 1) := by decide +kernel
theorem dX12_orders_131 : decode cX12_orders 131 = .ok (.getfield 114, 3) := by decide +kernel
theorem dX12_orders_134 : decode cX12_orders 134 = .ok (.iload 4, 2) := by decide +kernel
theorem dX12_orders_136 : decode cX12_orders 136 = .ok (.aload_n 0, 1) := by decide +kernel
theorem dX12_orders_137 : decode cX12_orders 137 = .ok (.getfield 117, 3) := by decide +kernel
theorem dX12_orders_140 : decode cX12_orders 140 = .ok (.iload 4, 2) := by decide +kernel
theorem dX12_orders_142 : decode cX12_orders 142 = .ok (.iaload, 1) := by decide +kernel
theorem dX12_orders_143 : decode cX12_orders 143 = .ok (.iastore, 1) := by decide +kernel
theorem dX12_orders_144 : decode cX12_orders 144 = .ok (.iinc 4 1, 3) := by decide +kernel
theorem dX12_orders_147 : decode cX12_orders 147 = .ok (.goto (-25), 3) := by decide +kernel
theorem dX12_orders_150 : decode cX12_orders 150 = .ok (.aload_n 0, 1) := by decide +kernel
theorem dX12_orders_151 : decode cX12_orders 151 = .ok (.iload_n 1, 1) := by decide +kernel
theorem dX12_orders_152 : decode cX12_orders 152 = .ok (.putfield 11, 3) := by decide +kernel
theorem dX12_orders_155 : decode cX12_orders 155 = .ok (.aload_n 0, 1) := by decide +kernel
theorem dX12_orders_156 : decode cX12_orders 156 = .ok (.iload_n 3, 1) := by decide +kernel
theorem dX12_orders_157 : decode cX12_orders 157 = .ok (.putfield 120, 3) := by decide +kernel
theorem dX12_orders_160 : decode cX12_orders 160 = .ok (.aload_n 0, 1) := by decide +kernel
theorem dX12_orders_161 : decode cX12_orders 161 = .ok (.bipush (-3), 2) := by decide +kernel
theorem dX12_orders_163 : decode cX12_orders 163 = .ok (.invokevirtual 135, 3) := by decide +kernel
theorem dX12_orders_166 : decode cX12_orders 166 = .ok (.ireturn, 1) := by decide +kernel
theorem dX12_orders_167 : decode cX12_orders 167 = .ok (.iinc 3 1, 3) := by decide +kernel
theorem dX12_orders_170 : decode cX12_orders 170 = .ok (.goto (-75), 3) := by decide +kernel
theorem dX12_orders_173 : decode cX12_orders 173 = .ok (.aload_n 0, 1) := by decide +kernel
theorem dX12_orders_174 : decode cX12_orders 174 = .ok (.aload_n 0, 1) := by decide +kernel
theorem dX12_orders_175 : decode cX12_orders 175 = .ok (.getfield 328, 3) := by decide +kernel
theorem dX12_orders_178 : decode cX12_orders 178 = .ok (.invokevirtual 14, 3) := by decide +kernel
theorem dX12_orders_181 : decode cX12_orders 181 = .ok (.ireturn, 1) := by decide +kernel
abbrev mX12_orders : zq_M := (cX12_orders, RX12, "orders", (some .int), 5)
section ZL36
variable {l : Launch} {G : zq_G} {D n m B E : Nat} {σ : zm_S} {ρ : Nat → zq_E} {post : Option Value → Nat → (Nat → zq_E) → Prop} {x w rk cd vl : Nat → Nat} {W : Nat → Nat → Int}
theorem zWv_o (hC : zC σ m x w rk) (h19 : zSm (σ.2.1 72 19)) (h28 : zSm (σ.1 28)) (h29 : zSm (σ.1 29)) : zWv l G n σ ρ true (zovV σ m x w rk) :=
  ⟨zovV_b hC h19 h28 h29, fun h => Bool.noConfusion h, fun _ D c k i b post hD h1 h2 h3 hp => zm_orderValue (by omega) hC h1 h2 h3 hp⟩
theorem zm_passes0r {D i k : Nat} {b : Int32} {o : Bool} {post : Option Value → Nat → (Nat → zq_E) → Prop} (hD : 1 ≤ D) (hR : zRun σ B E cd vl o) (hi : i ≤ 10000) (hk : k < 1000) (hp : post (some (.int (zb (decide (cd i = k))))) n (zm_h (zgr σ (B + (if cd i = k then i + 1 else i)) b) ρ)) : zq_Runs l G D 0 0 yX12_passes0 [.ref 70, .int (nI k)] n (zm_h (zgr σ (B + i) b) ρ) post := by
  have h5 := hR.2.2.2.2.1 i
  refine zq_enter (cc := cX12_passes0) (nL := 3) (ret := (some .boolean)) cw_X12_passes0 (by decide) rfl (Nat.le_of_ble_eq_true rfl) ?_
  refine at_aload_n dX12_passes0_0 rfl ?_
  refine at_aload_n dX12_passes0_1 rfl ?_
  refine at_get dX12_passes0_2 fl_X12_286 rfl rfl ?_
  rw [zgr_23]
  refine at_callV1 (d := D - 1) dX12_passes0_5 mv_X12_289 rfl (Nat.le_of_ble_eq_true rfl) (zq_r0 (by omega) (by omega) (by omega)) ?_
  refine zm_codeAtr hR hi ?_
  refine at_iload_n dX12_passes0_8 rfl ?_
  refine at_neN (tgt := 16) dX12_passes0_9 (by decide) (by omega) (by omega) (fun c9 => ?_) (fun c9 => ?_)
  · rw [if_neg c9, decide_eq_false c9] at hp
    refine at_iconst dX12_passes0_16 (v := nI 0) (by decide) ?_
    refine at_istore_n dX12_passes0_17 rfl (by decide) ?_
    refine at_iload_n dX12_passes0_18 rfl ?_
    refine at_if_eqN (tgt := 32) dX12_passes0_19 (by decide) (by omega) (fun c19 => ?_) (fun c19 => ?_)
    · refine at_iload_n dX12_passes0_32 rfl ?_
      refine at_zret dX12_passes0_33 rfl (by omega) (by omega) (by first | exact Or.inl rfl | exact Or.inr rfl | assumption) ?_
      exact hp
    · omega
  · rw [if_pos c9, decide_eq_true c9] at hp
    refine at_iconst dX12_passes0_12 (v := nI 1) (by decide) ?_
    refine at_goto (tgt := 17) dX12_passes0_13 (by decide) ?_
    refine at_istore_n dX12_passes0_17 rfl (by decide) ?_
    refine at_iload_n dX12_passes0_18 rfl ?_
    refine at_if_eqN (tgt := 32) dX12_passes0_19 (by decide) (by omega) (fun c19 => ?_) (fun c19 => ?_)
    · omega
    · refine at_aload_n dX12_passes0_22 rfl ?_
      refine at_dup dX12_passes0_23 rfl ?_
      refine at_get dX12_passes0_24 fl_X12_286 rfl rfl ?_
      rw [zgr_23]
      refine at_iconst dX12_passes0_27 (v := nI 1) (by decide) ?_
      refine at_iaddN dX12_passes0_28 ?_
      refine at_mput dX12_passes0_29 (pl_X12_286 _) (fun _ => ⟨_, rfl⟩) rfl rfl ?_
      rw [zgr_s23, Nat.add_assoc]
      refine at_iload_n dX12_passes0_32 rfl ?_
      refine at_zret dX12_passes0_33 rfl (by omega) (by omega) (by first | exact Or.inl rfl | exact Or.inr rfl | assumption) ?_
      exact hp
theorem zm_ga_sum {τ : zm_S} {en v : Int32} {lv s : Bool} {k N i j : Nat} {e : zX} (hD : 45 ≤ D) (hR : zRun τ B E cd vl true) (hW : zWv l G n τ ρ true W) (h49 : τ.1 49 = zb s) (hk : k < N) (hN : N ≤ 3) (he : zSpS cd vl true 9 e (if k = 0 then i else i + 1) j)
    (hn : ∀ fl, zq_At l G (zq_rm D 0 0) mX12_goesAlong (zq_QF G post 0 0) 76 [(0, .ref 70), (1, .int en), (2, .int (zb lv)), (3, .int (nI N)), (4, .int (nI (k + 1)))] [] n (zm_h (zgr (zm_si (zm_sl τ 1 k (zL (zvl W lv false e))) 49 (zb (s && !(zbs W lv false e)))) (B + j) fl) ρ) 0 0) : zq_At l G (zq_rm D 0 0) mX12_goesAlong (zq_QF G post 0 0) 76 [(0, .ref 70), (1, .int en), (2, .int (zb lv)), (3, .int (nI N)), (4, .int (nI k))] [] n (zm_h (zgr τ (B + i) v) ρ) 0 0 := by
  have hg : ∀ q, zm_si (zgr τ q v) 25 (nI 0) = zg τ q false := fun q => zsi_si _ _ _ _
  have hgo : ∀ q, q = (if k = 0 then i else i + 1) → zq_At l G (zq_rm D 0 0) mX12_goesAlong (zq_QF G post 0 0) 97 [(0, .ref 70), (1, .int en), (2, .int (zb lv)), (3, .int (nI N)), (4, .int (nI k))] [] n (zm_h (zgr τ (B + q) v) ρ) 0 0 := by
    rintro q rfl
    have hn := hn (zb (zbs W lv false e))
    refine at_aload_n dX12_goesAlong_97 rfl ?_
    refine at_iconst dX12_goesAlong_98 (v := nI 0) (by decide) ?_
    refine at_mput dX12_goesAlong_99 (pl_X12_296 _) (fun _ => ⟨_, rfl⟩) rfl rfl ?_
    rw [hg]
    refine at_aload_n dX12_goesAlong_102 rfl ?_
    refine at_get dX12_goesAlong_103 fl_X12_123 rfl rfl ?_
    refine at_iload dX12_goesAlong_106 rfl ?_
    refine at_aload_n dX12_goesAlong_108 rfl ?_
    refine at_iload_n dX12_goesAlong_109 rfl ?_
    refine at_callV1 (d := D - 1) dX12_goesAlong_110 mv_X12_313 rfl (Nat.le_of_ble_eq_true rfl) (zq_r0 (by omega) (by omega) (by omega)) ?_
    refine zm_sumS hR hW 9 _ (by omega) e _ j lv false _ he ?_
    refine at_ml1st dX12_goesAlong_113 rfl (by omega) ?_
    refine at_aload_n dX12_goesAlong_114 rfl ?_
    refine at_aload_n dX12_goesAlong_115 rfl ?_
    refine at_get dX12_goesAlong_116 fl_X12_494 rfl rfl ?_
    rw [show (zm_sl (zg τ (B + j) (zbs W lv false e)) 1 k (zL (zvl W lv false e))).1 49 = zb s from (zg_o τ (B + j) (zbs W lv false e) (by decide) (by decide)).trans h49]
    refine at_if_eqB (tgt := 133) dX12_goesAlong_119 (by decide) (fun c119 => ?_) (fun c119 => ?_)
    · rw [c119, Bool.false_and] at hn
      refine at_iconst dX12_goesAlong_133 (v := nI 0) (by decide) ?_
      refine at_mput dX12_goesAlong_134 (pl_X12_494 _) (fun _ => ⟨_, rfl⟩) rfl rfl ?_
      first | rw [show (nI 1 : Int32) = zb (!false) from rfl, show ∀ b, zg τ (B + j) b = zgr τ (B + j) (zb b) from fun _ => rfl, zgr_l, zgr_i _ _ _ (by decide) (by decide)] | rw [show (nI 0 : Int32) = zb (!true) from rfl, show ∀ b, zg τ (B + j) b = zgr τ (B + j) (zb b) from fun _ => rfl, zgr_l, zgr_i _ _ _ (by decide) (by decide)] | rw [show (nI 0 : Int32) = zb false from rfl, show ∀ b, zg τ (B + j) b = zgr τ (B + j) (zb b) from fun _ => rfl, zgr_l, zgr_i _ _ _ (by decide) (by decide)]
      refine at_iincN dX12_goesAlong_137 rfl (by decide) ?_
      refine at_goto (tgt := 76) dX12_goesAlong_140 (by decide) ?_
      exact hn
    · rw [c119, Bool.true_and] at hn
      refine at_aload_n dX12_goesAlong_122 rfl ?_
      refine at_get dX12_goesAlong_123 fl_X12_296 rfl rfl ?_
      rw [show (zm_sl (zg τ (B + j) (zbs W lv false e)) 1 k (zL (zvl W lv false e))).1 25 = zb (zbs W lv false e) from zg_25 τ (B + j) (zbs W lv false e)]
      refine at_if_neB (tgt := 133) dX12_goesAlong_126 (by decide) (fun c126 => ?_) (fun c126 => ?_)
      · rw [c126]; rw [c126] at hn
        refine at_iconst dX12_goesAlong_133 (v := nI 0) (by decide) ?_
        refine at_mput dX12_goesAlong_134 (pl_X12_494 _) (fun _ => ⟨_, rfl⟩) rfl rfl ?_
        first | rw [show (nI 1 : Int32) = zb (!false) from rfl, show ∀ b, zg τ (B + j) b = zgr τ (B + j) (zb b) from fun _ => rfl, zgr_l, zgr_i _ _ _ (by decide) (by decide)] | rw [show (nI 0 : Int32) = zb (!true) from rfl, show ∀ b, zg τ (B + j) b = zgr τ (B + j) (zb b) from fun _ => rfl, zgr_l, zgr_i _ _ _ (by decide) (by decide)] | rw [show (nI 0 : Int32) = zb false from rfl, show ∀ b, zg τ (B + j) b = zgr τ (B + j) (zb b) from fun _ => rfl, zgr_l, zgr_i _ _ _ (by decide) (by decide)]
        refine at_iincN dX12_goesAlong_137 rfl (by decide) ?_
        refine at_goto (tgt := 76) dX12_goesAlong_140 (by decide) ?_
        exact hn
      · rw [c126]; rw [c126] at hn
        refine at_iconst dX12_goesAlong_129 (v := nI 1) (by decide) ?_
        refine at_goto (tgt := 134) dX12_goesAlong_130 (by decide) ?_
        refine at_mput dX12_goesAlong_134 (pl_X12_494 _) (fun _ => ⟨_, rfl⟩) rfl rfl ?_
        first | rw [show (nI 1 : Int32) = zb (!false) from rfl, show ∀ b, zg τ (B + j) b = zgr τ (B + j) (zb b) from fun _ => rfl, zgr_l, zgr_i _ _ _ (by decide) (by decide)] | rw [show (nI 0 : Int32) = zb (!true) from rfl, show ∀ b, zg τ (B + j) b = zgr τ (B + j) (zb b) from fun _ => rfl, zgr_l, zgr_i _ _ _ (by decide) (by decide)] | rw [show (nI 0 : Int32) = zb false from rfl, show ∀ b, zg τ (B + j) b = zgr τ (B + j) (zb b) from fun _ => rfl, zgr_l, zgr_i _ _ _ (by decide) (by decide)]
        refine at_iincN dX12_goesAlong_137 rfl (by decide) ?_
        refine at_goto (tgt := 76) dX12_goesAlong_140 (by decide) ?_
        exact hn
  refine at_iload dX12_goesAlong_76 rfl ?_
  refine at_iload_n dX12_goesAlong_78 rfl ?_
  refine at_geN (tgt := 143) dX12_goesAlong_79 (by decide) (by omega) (by omega) (fun c79 => ?_) (fun c79 => ?_)
  · omega
  · refine at_iload dX12_goesAlong_82 rfl ?_
    refine at_if_leN (tgt := 97) dX12_goesAlong_84 (by decide) (by omega) (fun c84 => ?_) (fun c84 => ?_)
    · have hgo := hgo i (by rw [if_pos c84])
      first | exact hgo | (rw [zgr_s23, Nat.add_assoc]; exact hgo)
    · have hgo := hgo (i + 1) (by rw [if_neg c84])
      refine at_aload_n dX12_goesAlong_87 rfl ?_
      refine at_dup dX12_goesAlong_88 rfl ?_
      refine at_get dX12_goesAlong_89 fl_X12_286 rfl rfl ?_
      rw [zgr_23]
      refine at_iconst dX12_goesAlong_92 (v := nI 1) (by decide) ?_
      refine at_iaddN dX12_goesAlong_93 ?_
      refine at_mput dX12_goesAlong_94 (pl_X12_286 _) (fun _ => ⟨_, rfl⟩) rfl rfl ?_
      first | exact hgo | (rw [zgr_s23, Nat.add_assoc]; exact hgo)
end ZL36

