/-! ===== the Model: sums, by recursive descent ===== -/
section ZP0
variable (c v pl : Nat → Nat) (fw lw : Nat) (o : Bool)
/-- while one of these codes comes: it is passed, then P -/
def zpL (ks : List Nat) (P : zQ → zQ) : Nat → zQ → zQ
  | 0, q => q
  | f + 1, q => if ks.any (fun k => zpt c q k) = true then zpL ks P f (P (zpn q)) else q
/-- a part; deepest: no bracket may open any more; R reads what stands in brackets -/
def zpPart (deepest : Bool) (R : zQ → zQ) (q : zQ) : zQ :=
  if q.2.2 ≠ 0 then q
  else if c q.1 = 191 then (if deepest = true then zpf pl q else zpmu c pl (R (zpn q)) 193)
  else if (c q.1 = 50 ∧ v q.1 ≤ 1000) ∨ (fw ≤ c q.1 ∧ c q.1 ≤ lw) then (if o = true ∧ (c q.1 = 20 ∨ c q.1 = 21) then zpnum c v pl (zpleaf pl q) 0 6 else zpleaf pl q)
  else zpf pl q
def zpTerm (P : zQ → zQ) (q : zQ) : zQ := zpL c [142, 147, 137] P 402 (P q)
def zpSum (T : zQ → zQ) (q : zQ) : zQ := zpL c [143, 145] T 402 (T q)
/-- a sum within 8 - d brackets -/
def zpS : Nat → zQ → zQ
  | 0 => zpSum c (zpTerm c (zpPart c v pl fw lw o true id))
  | d + 1 => zpSum c (zpTerm c (zpPart c v pl fw lw o false (zpS d)))
def zpR : Nat → zQ → zQ
  | 0 => id
  | d + 1 => zpS c v pl fw lw o d
def zpP (d : Nat) : zQ → zQ := zpPart c v pl fw lw o (decide (d = 0)) (zpR c v pl fw lw o d)
theorem zpS_eq (d : Nat) : zpS c v pl fw lw o d = zpSum c (zpTerm c (zpP c v pl fw lw o d)) := by cases d <;> rfl
end ZP0
/-- in order: within the tokens, parts fewer than tokens -/
def zqk (N : Nat) (q : zQ) : Prop := q.1 ≤ N ∧ q.2.2 ≤ 1000 ∧ (q.2.2 = 0 → q.2.1 ≤ q.1) ∧ q.2.1 ≤ 500
/-- goes on in order, never back, not at all where it is bad -/
def zgd (N : Nat) (f : zQ → zQ) : Prop := ∀ q, zqk N q → zqk N (f q) ∧ q.1 ≤ (f q).1 ∧ (q.2.2 ≠ 0 → f q = q)
section ZP1
variable {N : Nat} {c v pl : Nat → Nat} {fw lw : Nat} {o : Bool}
theorem zpt_lt (hc : c N = 0) {q : zQ} {k : Nat} (hq : q.1 ≤ N) (hk : k ≠ 0) (h : zpt c q k = true) : q.1 < N ∧ q.2.2 = 0 := by
  unfold zpt at h
  rw [Bool.and_eq_true, decide_eq_true_eq, decide_eq_true_eq] at h
  refine ⟨?_, h.1⟩
  rcases Nat.lt_or_ge q.1 N with h1 | h1
  · exact h1
  · have : q.1 = N := by omega
    rw [this, hc] at h
    exact absurd h.2.symm hk
theorem zgd_f (hpl : ∀ j, j ≤ N → pl j ≤ 400) : zgd N (zpf pl) := by
  intro q h
  have := hpl q.1 h.1
  unfold zpf
  by_cases h0 : q.2.2 = 0
  · rw [if_pos h0]
    exact ⟨⟨h.1, by show pl q.1 + 1 ≤ 1000; omega, fun e => absurd e (by show ¬ pl q.1 + 1 = 0; omega), h.2.2.2⟩, Nat.le_refl _, fun e => absurd h0 e⟩
  · rw [if_neg h0]
    exact ⟨h, Nat.le_refl _, fun _ => rfl⟩
theorem zqk_n {q : zQ} (h : zqk N q) (hN : N ≤ 400) (hl : q.1 < N) (h0 : q.2.2 = 0) : zqk N (zpn q) := ⟨hl, h.2.1, fun e => by have := h.2.2.1 h0; show q.2.1 ≤ q.1 + 1; omega, h.2.2.2⟩
theorem zgd_mu (hN : N ≤ 400) (hc : c N = 0) (hpl : ∀ j, j ≤ N → pl j ≤ 400) {k : Nat} (hk : k ≠ 0) : zgd N (fun q => zpmu c pl q k) := by
  intro q h
  show zqk N (zpmu c pl q k) ∧ q.1 ≤ (zpmu c pl q k).1 ∧ (q.2.2 ≠ 0 → zpmu c pl q k = q)
  unfold zpmu
  by_cases ht : zpt c q k = true
  · obtain ⟨h1, h2⟩ := zpt_lt hc h.1 hk ht
    rw [if_pos ht]
    exact ⟨zqk_n h hN h1 h2, Nat.le_succ _, fun e => absurd h2 e⟩
  · rw [if_neg ht]
    exact zgd_f hpl q h
theorem zgd_leaf (hN : N ≤ 400) (hpl : ∀ j, j ≤ N → pl j ≤ 400) {q : zQ} (h : zqk N q) (hl : q.1 < N) (h0 : q.2.2 = 0) : zqk N (zpleaf pl q) ∧ q.1 ≤ (zpleaf pl q).1 := by
  have hf := zgd_f hpl q h
  have hlv := h.2.2.1 h0
  have hB2 : (if q.2.1 = 50 then zpf pl q else q).2.2 ≤ 1000 := by
    by_cases h5 : q.2.1 = 50
    · rw [if_pos h5]; exact hf.1.2.1
    · rw [if_neg h5]; exact h.2.1
  unfold zpleaf
  generalize (if q.2.1 = 50 then zpf pl q else q).2.2 = B at hB2 ⊢
  by_cases hB : B = 0
  · rw [if_pos hB]
    exact ⟨⟨hl, Nat.zero_le _, fun _ => by show q.2.1 + 1 ≤ q.1 + 1; omega, by show q.2.1 + 1 ≤ 500; omega⟩, Nat.le_succ _⟩
  · rw [if_neg hB]
    exact ⟨⟨h.1, hB2, fun e => absurd e hB, by show q.2.1 + 1 ≤ 500; omega⟩, Nat.le_refl _⟩
theorem zgd_num (hN : N ≤ 400) (hc : c N = 0) (hpl : ∀ j, j ≤ N → pl j ≤ 400) {lo hi : Nat} : zgd N (fun q => zpnum c v pl q lo hi) := by
  intro q h
  show zqk N (zpnum c v pl q lo hi) ∧ q.1 ≤ (zpnum c v pl q lo hi).1 ∧ (q.2.2 ≠ 0 → zpnum c v pl q lo hi = q)
  unfold zpnum
  by_cases h0 : q.2.2 = 0
  · rw [if_pos h0]
    by_cases h5 : c q.1 = 50 ∧ lo ≤ v q.1 ∧ v q.1 ≤ hi
    · rw [if_pos h5]
      have hl : q.1 < N := by
        rcases Nat.lt_or_ge q.1 N with h1 | h1
        · exact h1
        · have : q.1 = N := by have := h.1; omega
          rw [this, hc] at h5
          omega
      exact ⟨zqk_n h hN hl h0, Nat.le_succ _, fun e => absurd h0 e⟩
    · rw [if_neg h5]
      exact zgd_f hpl q h
  · rw [if_neg h0]
    exact ⟨h, Nat.le_refl _, fun _ => rfl⟩
theorem zgd_L (hN : N ≤ 400) (hc : c N = 0) {ks : List Nat} (hks : ∀ k ∈ ks, k ≠ 0) {P : zQ → zQ} (hP : zgd N P) : ∀ f, zgd N (zpL c ks P f)
  | 0 => fun q h => ⟨h, Nat.le_refl _, fun _ => rfl⟩
  | f + 1 => by
    intro q h
    unfold zpL
    by_cases ht : ks.any (fun k => zpt c q k) = true
    · rw [if_pos ht]
      obtain ⟨k, hk, hz⟩ := List.any_eq_true.mp ht
      obtain ⟨h1, h2⟩ := zpt_lt hc h.1 (hks k hk) hz
      have g1 := hP (zpn q) (zqk_n h hN h1 h2)
      have g2 := zgd_L hN hc hks hP f (P (zpn q)) g1.1
      refine ⟨g2.1, Nat.le_trans (Nat.le_succ q.1) (Nat.le_trans g1.2.1 g2.2.1), fun e => absurd h2 e⟩
    · rw [if_neg ht]
      exact ⟨h, Nat.le_refl _, fun _ => rfl⟩
theorem zgd_part (hN : N ≤ 400) (hc : c N = 0) (hpl : ∀ j, j ≤ N → pl j ≤ 400) (hfw : 0 < fw) {dp : Bool} {R : zQ → zQ} (hR : zgd N R) : zgd N (zpPart c v pl fw lw o dp R) := by
  intro q h
  unfold zpPart
  by_cases h0 : q.2.2 ≠ 0
  · rw [if_pos h0]; exact ⟨h, Nat.le_refl _, fun _ => rfl⟩
  · rw [if_neg h0]
    have h0' : q.2.2 = 0 := by omega
    have hlt : c q.1 ≠ 0 → q.1 < N := fun hne => by
      rcases Nat.lt_or_ge q.1 N with h1 | h1
      · exact h1
      · exact absurd (by rw [show q.1 = N by have := h.1; omega]; exact hc) hne
    by_cases h1 : c q.1 = 191
    · rw [if_pos h1]
      cases dp with
      | true => rw [if_pos rfl]; exact zgd_f hpl q h
      | false =>
        rw [if_neg (by decide)]
        have g1 := hR (zpn q) (zqk_n h hN (hlt (by omega)) h0')
        have g2 := zgd_mu hN hc hpl (k := 193) (by decide) (R (zpn q)) g1.1
        exact ⟨g2.1, Nat.le_trans (Nat.le_succ q.1) (Nat.le_trans g1.2.1 g2.2.1), fun e => absurd h0' e⟩
    · rw [if_neg h1]
      by_cases h2 : (c q.1 = 50 ∧ v q.1 ≤ 1000) ∨ (fw ≤ c q.1 ∧ c q.1 ≤ lw)
      · rw [if_pos h2]
        have gl := zgd_leaf hN hpl h (hlt (by rcases h2 with h2 | h2 <;> omega)) h0'
        split
        · have g2 := zgd_num hN hc hpl (v := v) (lo := 0) (hi := 6) (zpleaf pl q) gl.1
          exact ⟨g2.1, Nat.le_trans gl.2 g2.2.1, fun e => absurd h0' e⟩
        · exact ⟨gl.1, gl.2, fun e => absurd h0' e⟩
      · rw [if_neg h2]
        exact zgd_f hpl q h
theorem zgd_comp {f g : zQ → zQ} (hf : zgd N f) (hg : zgd N g) : zgd N (fun q => g (f q)) := fun q h => ⟨(hg _ (hf q h).1).1, Nat.le_trans (hf q h).2.1 (hg _ (hf q h).1).2.1, fun e => by show g (f q) = q; rw [(hf q h).2.2 e, (hg q h).2.2 e]⟩
theorem zgd_term (hN : N ≤ 400) (hc : c N = 0) {P : zQ → zQ} (hP : zgd N P) : zgd N (zpTerm c P) := by
  have := zgd_comp hP (zgd_L (c := c) (ks := [142, 147, 137]) hN hc (by decide) hP 402)
  exact this
theorem zgd_sum (hN : N ≤ 400) (hc : c N = 0) {P : zQ → zQ} (hP : zgd N P) : zgd N (zpSum c P) := by
  have := zgd_comp hP (zgd_L (c := c) (ks := [143, 145]) hN hc (by decide) hP 402)
  exact this
theorem zgd_S (hN : N ≤ 400) (hc : c N = 0) (hpl : ∀ j, j ≤ N → pl j ≤ 400) (hfw : 0 < fw) : ∀ d, zgd N (zpS c v pl fw lw o d)
  | 0 => zgd_sum hN hc (zgd_term hN hc (zgd_part hN hc hpl hfw (fun q h => ⟨h, Nat.le_refl _, fun _ => rfl⟩)))
  | d + 1 => zgd_sum hN hc (zgd_term hN hc (zgd_part hN hc hpl hfw (zgd_S hN hc hpl hfw d)))
theorem zgd_R (hN : N ≤ 400) (hc : c N = 0) (hpl : ∀ j, j ≤ N → pl j ≤ 400) (hfw : 0 < fw) (d : Nat) : zgd N (zpR c v pl fw lw o d) := by
  cases d with
  | zero => exact fun q h => ⟨h, Nat.le_refl _, fun _ => rfl⟩
  | succ d => exact zgd_S hN hc hpl hfw d
theorem zgd_P (hN : N ≤ 400) (hc : c N = 0) (hpl : ∀ j, j ≤ N → pl j ≤ 400) (hfw : 0 < fw) (d : Nat) : zgd N (zpP c v pl fw lw o d) := zgd_part hN hc hpl hfw (zgd_R hN hc hpl hfw d)
end ZP1
theorem dX12_readPart_0 : decode cX12_readPart 0 = .ok (.aload_n 0, 1) := by decide +kernel
theorem dX12_readPart_1 : decode cX12_readPart 1 = .ok (.invokevirtual 200, 3) := by decide +kernel
theorem dX12_readPart_4 : decode cX12_readPart 4 = .ok (.ifCond .ne 4, 3) := by decide +kernel
theorem dX12_readPart_7 : decode cX12_readPart 7 = .ok (.return_, 1) := by decide +kernel
theorem dX12_readPart_8 : decode cX12_readPart 8 = .ok (.aload_n 0, 1) := by decide +kernel
theorem dX12_readPart_9 : decode cX12_readPart 9 = .ok (.getfield 71, 3) := by decide +kernel
theorem dX12_readPart_12 : decode cX12_readPart 12 = .ok (.aload_n 0, 1) := by decide +kernel
theorem dX12_readPart_13 : decode cX12_readPart 13 = .ok (.getfield 204, 3) := by decide +kernel
theorem dX12_readPart_16 : decode cX12_readPart 16 = .ok (.iaload, 1) := by decide +kernel
theorem dX12_readPart_17 : decode cX12_readPart 17 = .ok (.istore_n 2, 1) := by decide +kernel
theorem dX12_readPart_18 : decode cX12_readPart 18 = .ok (.iload_n 2, 1) := by decide +kernel
theorem dX12_readPart_19 : decode cX12_readPart 19 = .ok (.bipush 91, 2) := by decide +kernel
theorem dX12_readPart_21 : decode cX12_readPart 21 = .ok (.invokestatic 245, 3) := by decide +kernel
theorem dX12_readPart_24 : decode cX12_readPart 24 = .ok (.if_icmp .ne 50, 3) := by decide +kernel
theorem dX12_readPart_27 : decode cX12_readPart 27 = .ok (.iload_n 1, 1) := by decide +kernel
theorem dX12_readPart_28 : decode cX12_readPart 28 = .ok (.bipush 8, 2) := by decide +kernel
theorem dX12_readPart_30 : decode cX12_readPart 30 = .ok (.if_icmp .ne 7, 3) := by decide +kernel
theorem dX12_readPart_33 : decode cX12_readPart 33 = .ok (.aload_n 0, 1) := by decide +kernel
theorem dX12_readPart_34 : decode cX12_readPart 34 = .ok (.invokevirtual 210, 3) := by decide +kernel
theorem dX12_readPart_37 : decode cX12_readPart 37 = .ok (.aload_n 0, 1) := by decide +kernel
theorem dX12_readPart_38 : decode cX12_readPart 38 = .ok (.invokevirtual 200, 3) := by decide +kernel
theorem dX12_readPart_41 : decode cX12_readPart 41 = .ok (.ifCond .ne 4, 3) := by decide +kernel
theorem dX12_readPart_44 : decode cX12_readPart 44 = .ok (.return_, 1) := by decide +kernel
theorem dX12_readPart_45 : decode cX12_readPart 45 = .ok (.aload_n 0, 1) := by decide +kernel
theorem dX12_readPart_46 : decode cX12_readPart 46 = .ok (.dup, 1) := by decide +kernel
theorem dX12_readPart_47 : decode cX12_readPart 47 = .ok (.getfield 204, 3) := by decide +kernel
theorem dX12_readPart_50 : decode cX12_readPart 50 = .ok (.iconst 1, 1) := by decide +kernel
theorem dX12_readPart_51 : decode cX12_readPart 51 = .ok (.iadd, 1) := by decide +kernel
theorem dX12_readPart_52 : decode cX12_readPart 52 = .ok (.putfield 204, 3) := by decide +kernel
theorem dX12_readPart_55 : decode cX12_readPart 55 = .ok (.aload_n 0, 1) := by decide +kernel
theorem dX12_readPart_56 : decode cX12_readPart 56 = .ok (.iload_n 1, 1) := by decide +kernel
theorem dX12_readPart_57 : decode cX12_readPart 57 = .ok (.iconst 1, 1) := by decide +kernel
theorem dX12_readPart_58 : decode cX12_readPart 58 = .ok (.iadd, 1) := by decide +kernel
theorem dX12_readPart_59 : decode cX12_readPart 59 = .ok (.invokevirtual 216, 3) := by decide +kernel
theorem dX12_readPart_62 : decode cX12_readPart 62 = .ok (.aload_n 0, 1) := by decide +kernel
theorem dX12_readPart_63 : decode cX12_readPart 63 = .ok (.bipush 93, 2) := by decide +kernel
theorem dX12_readPart_65 : decode cX12_readPart 65 = .ok (.invokestatic 245, 3) := by decide +kernel
theorem dX12_readPart_68 : decode cX12_readPart 68 = .ok (.invokevirtual 219, 3) := by decide +kernel
theorem dX12_readPart_71 : decode cX12_readPart 71 = .ok (.goto 77, 3) := by decide +kernel
theorem dX12_readPart_74 : decode cX12_readPart 74 = .ok (.iload_n 2, 1) := by decide +kernel
theorem dX12_readPart_75 : decode cX12_readPart 75 = .ok (.bipush 50, 2) := by decide +kernel
theorem dX12_readPart_77 : decode cX12_readPart 77 = .ok (.if_icmp .ne 18, 3) := by decide +kernel
theorem dX12_readPart_80 : decode cX12_readPart 80 = .ok (.aload_n 0, 1) := by decide +kernel
theorem dX12_readPart_81 : decode cX12_readPart 81 = .ok (.getfield 74, 3) := by decide +kernel
theorem dX12_readPart_84 : decode cX12_readPart 84 = .ok (.aload_n 0, 1) := by decide +kernel
theorem dX12_readPart_85 : decode cX12_readPart 85 = .ok (.getfield 204, 3) := by decide +kernel
theorem dX12_readPart_88 : decode cX12_readPart 88 = .ok (.iaload, 1) := by decide +kernel
theorem dX12_readPart_89 : decode cX12_readPart 89 = .ok (.sipush 1000, 3) := by decide +kernel
theorem dX12_readPart_92 : decode cX12_readPart 92 = .ok (.if_icmp .le 19, 3) := by decide +kernel
theorem dX12_readPart_95 : decode cX12_readPart 95 = .ok (.iload_n 2, 1) := by decide +kernel
theorem dX12_readPart_96 : decode cX12_readPart 96 = .ok (.aload_n 0, 1) := by decide +kernel
theorem dX12_readPart_97 : decode cX12_readPart 97 = .ok (.getfield 255, 3) := by decide +kernel
theorem dX12_readPart_100 : decode cX12_readPart 100 = .ok (.if_icmp .lt 44, 3) := by decide +kernel
theorem dX12_readPart_103 : decode cX12_readPart 103 = .ok (.iload_n 2, 1) := by decide +kernel
theorem dX12_readPart_104 : decode cX12_readPart 104 = .ok (.aload_n 0, 1) := by decide +kernel
theorem dX12_readPart_105 : decode cX12_readPart 105 = .ok (.getfield 258, 3) := by decide +kernel
theorem dX12_readPart_108 : decode cX12_readPart 108 = .ok (.if_icmp .gt 36, 3) := by decide +kernel
theorem dX12_readPart_111 : decode cX12_readPart 111 = .ok (.aload_n 0, 1) := by decide +kernel
theorem dX12_readPart_112 : decode cX12_readPart 112 = .ok (.invokevirtual 261, 3) := by decide +kernel
theorem dX12_readPart_115 : decode cX12_readPart 115 = .ok (.aload_n 0, 1) := by decide +kernel
theorem dX12_readPart_116 : decode cX12_readPart 116 = .ok (.getfield 229, 3) := by decide +kernel
theorem dX12_readPart_119 : decode cX12_readPart 119 = .ok (.ifCond .eq 29, 3) := by decide +kernel
theorem dX12_readPart_122 : decode cX12_readPart 122 = .ok (.iload_n 2, 1) := by decide +kernel
theorem dX12_readPart_123 : decode cX12_readPart 123 = .ok (.bipush 20, 2) := by decide +kernel
theorem dX12_readPart_125 : decode cX12_readPart 125 = .ok (.if_icmp .eq 9, 3) := by decide +kernel
theorem dX12_readPart_128 : decode cX12_readPart 128 = .ok (.iload_n 2, 1) := by decide +kernel
theorem dX12_readPart_129 : decode cX12_readPart 129 = .ok (.bipush 21, 2) := by decide +kernel
theorem dX12_readPart_131 : decode cX12_readPart 131 = .ok (.if_icmp .ne 17, 3) := by decide +kernel
theorem dX12_readPart_134 : decode cX12_readPart 134 = .ok (.aload_n 0, 1) := by decide +kernel
theorem dX12_readPart_135 : decode cX12_readPart 135 = .ok (.iconst 0, 1) := by decide +kernel
theorem dX12_readPart_136 : decode cX12_readPart 136 = .ok (.bipush 6, 2) := by decide +kernel
theorem dX12_readPart_138 : decode cX12_readPart 138 = .ok (.invokevirtual 225, 3) := by decide +kernel
theorem dX12_readPart_141 : decode cX12_readPart 141 = .ok (.goto 7, 3) := by decide +kernel
theorem dX12_readPart_144 : decode cX12_readPart 144 = .ok (.aload_n 0, 1) := by decide +kernel
theorem dX12_readPart_145 : decode cX12_readPart 145 = .ok (.invokevirtual 210, 3) := by decide +kernel
theorem dX12_readPart_148 : decode cX12_readPart 148 = .ok (.return_, 1) := by decide +kernel
abbrev mX12_readPart : zq_M := (cX12_readPart, RX12, "readPart", none, 3)
theorem dX12_readTerm_0 : decode cX12_readTerm 0 = .ok (.aload_n 0, 1) := by decide +kernel
theorem dX12_readTerm_1 : decode cX12_readTerm 1 = .ok (.iload_n 1, 1) := by decide +kernel
theorem dX12_readTerm_2 : decode cX12_readTerm 2 = .ok (.invokevirtual 252, 3) := by decide +kernel
theorem dX12_readTerm_5 : decode cX12_readTerm 5 = .ok (.aload_n 0, 1) := by decide +kernel
theorem dX12_readTerm_6 : decode cX12_readTerm 6 = .ok (.bipush 42, 2) := by decide +kernel
theorem dX12_readTerm_8 : decode cX12_readTerm 8 = .ok (.invokestatic 245, 3) := by decide +kernel
theorem dX12_readTerm_11 : decode cX12_readTerm 11 = .ok (.invokevirtual 207, 3) := by decide +kernel
theorem dX12_readTerm_14 : decode cX12_readTerm 14 = .ok (.ifCond .ne 27, 3) := by decide +kernel
theorem dX12_readTerm_17 : decode cX12_readTerm 17 = .ok (.aload_n 0, 1) := by decide +kernel
theorem dX12_readTerm_18 : decode cX12_readTerm 18 = .ok (.bipush 47, 2) := by decide +kernel
theorem dX12_readTerm_20 : decode cX12_readTerm 20 = .ok (.invokestatic 245, 3) := by decide +kernel
theorem dX12_readTerm_23 : decode cX12_readTerm 23 = .ok (.invokevirtual 207, 3) := by decide +kernel
theorem dX12_readTerm_26 : decode cX12_readTerm 26 = .ok (.ifCond .ne 15, 3) := by decide +kernel
theorem dX12_readTerm_29 : decode cX12_readTerm 29 = .ok (.aload_n 0, 1) := by decide +kernel
theorem dX12_readTerm_30 : decode cX12_readTerm 30 = .ok (.bipush 37, 2) := by decide +kernel
theorem dX12_readTerm_32 : decode cX12_readTerm 32 = .ok (.invokestatic 245, 3) := by decide +kernel
theorem dX12_readTerm_35 : decode cX12_readTerm 35 = .ok (.invokevirtual 207, 3) := by decide +kernel
theorem dX12_readTerm_38 : decode cX12_readTerm 38 = .ok (.ifCond .eq 11, 3) := by decide +kernel
theorem dX12_readTerm_41 : decode cX12_readTerm 41 = .ok (.aload_n 0, 1) := by decide +kernel
theorem dX12_readTerm_42 : decode cX12_readTerm 42 = .ok (.iload_n 1, 1) := by decide +kernel
theorem dX12_readTerm_43 : decode cX12_readTerm 43 = .ok (.invokevirtual 252, 3) := by decide +kernel
theorem dX12_readTerm_46 : decode cX12_readTerm 46 = .ok (.goto (-41), 3) := by decide +kernel
theorem dX12_readTerm_49 : decode cX12_readTerm 49 = .ok (.return_, 1) := by decide +kernel
abbrev mX12_readTerm : zq_M := (cX12_readTerm, RX12, "readTerm", none, 2)
theorem dX12_readSum_0 : decode cX12_readSum 0 = .ok (.aload_n 0, 1) := by decide +kernel
theorem dX12_readSum_1 : decode cX12_readSum 1 = .ok (.iload_n 1, 1) := by decide +kernel
theorem dX12_readSum_2 : decode cX12_readSum 2 = .ok (.invokevirtual 249, 3) := by decide +kernel
theorem dX12_readSum_5 : decode cX12_readSum 5 = .ok (.aload_n 0, 1) := by decide +kernel
theorem dX12_readSum_6 : decode cX12_readSum 6 = .ok (.bipush 43, 2) := by decide +kernel
theorem dX12_readSum_8 : decode cX12_readSum 8 = .ok (.invokestatic 245, 3) := by decide +kernel
theorem dX12_readSum_11 : decode cX12_readSum 11 = .ok (.invokevirtual 207, 3) := by decide +kernel
theorem dX12_readSum_14 : decode cX12_readSum 14 = .ok (.ifCond .ne 15, 3) := by decide +kernel
theorem dX12_readSum_17 : decode cX12_readSum 17 = .ok (.aload_n 0, 1) := by decide +kernel
theorem dX12_readSum_18 : decode cX12_readSum 18 = .ok (.bipush 45, 2) := by decide +kernel
theorem dX12_readSum_20 : decode cX12_readSum 20 = .ok (.invokestatic 245, 3) := by decide +kernel
theorem dX12_readSum_23 : decode cX12_readSum 23 = .ok (.invokevirtual 207, 3) := by decide +kernel
theorem dX12_readSum_26 : decode cX12_readSum 26 = .ok (.ifCond .eq 11, 3) := by decide +kernel
theorem dX12_readSum_29 : decode cX12_readSum 29 = .ok (.aload_n 0, 1) := by decide +kernel
theorem dX12_readSum_30 : decode cX12_readSum 30 = .ok (.iload_n 1, 1) := by decide +kernel
theorem dX12_readSum_31 : decode cX12_readSum 31 = .ok (.invokevirtual 249, 3) := by decide +kernel
theorem dX12_readSum_34 : decode cX12_readSum 34 = .ok (.goto (-29), 3) := by decide +kernel
theorem dX12_readSum_37 : decode cX12_readSum 37 = .ok (.return_, 1) := by decide +kernel
abbrev mX12_readSum : zq_M := (cX12_readSum, RX12, "readSum", none, 2)
section ZL13
variable {l : Launch} {G : zq_G} {n N fw lw : Nat} {o : Bool} {σ : zm_S} {ρ : Nat → zq_E} {c v pl : Nat → Nat}
theorem zm_sign {D k : Nat} {f : Nat → zq_E} {post : Option Value → Nat → (Nat → zq_E) → Prop} (hp : post (some (.int (nI (100 + k)))) n f) : zq_Runs l G D 0 0 yX12_sign [.int (nI k)] n f post := by
  refine zq_enter (cc := cX12_sign) (nL := 1) (ret := (some .int)) cw_X12_sign (by decide) rfl (Nat.le_of_ble_eq_true rfl) ?_
  refine at_bipush dX12_sign_0 (v := nI 100) (by decide) ?_
  refine at_iload_n dX12_sign_2 rfl ?_
  refine at_iaddN dX12_sign_3 ?_
  refine at_iret dX12_sign_4 rfl (by omega) (by omega) ?_
  exact hp
theorem zm_mustNumber {D lo hi : Nat} {q : zQ} {post : Option Value → Nat → (Nat → zq_E) → Prop} (hD : 2 ≤ D) (hT : zTk σ N c v pl) (hq : zqk N q) (hlo : lo < 2147483648) (hhi : hi < 2147483648) (hp : post none n (zm_h (zrd σ (zpnum c v pl q lo hi)) ρ)) : zq_Runs l G D 0 0 yX12_mustNumber [.ref 70, .int (nI lo), .int (nI hi)] n (zm_h (zrd σ q) ρ) post := by
  have hN := hT.1
  have hqN := hq.1
  obtain ⟨h1, h2, -, h3, h4, -⟩ := hT.2.2 q.1 hq.1
  obtain ⟨f1, f2, f3⟩ := zpf_b hT hq.1 hq.2.1
  have hl : (decide (nI lo ≤ nI (v q.1)) && decide (nI (v q.1) ≤ nI hi)) = decide (lo ≤ v q.1 ∧ v q.1 ≤ hi) := by
    rw [decide_eq_decide.mpr (nI_leI hlo (by omega)), decide_eq_decide.mpr (nI_leI (by omega) hhi), Bool.decide_and]
  unfold zpnum at hp
  refine zq_enter (cc := cX12_mustNumber) (nL := 3) (ret := none) cw_X12_mustNumber (by decide) rfl (Nat.le_of_ble_eq_true rfl) ?_
  refine at_aload_n dX12_mustNumber_0 rfl ?_
  refine at_callV0 (d := D - 1) dX12_mustNumber_1 mv_X12_200 rfl (Nat.le_of_ble_eq_true rfl) (zq_r0 (by omega) (by omega) (by omega)) ?_
  refine zm_fine hq.2.1 ?_
  refine at_if_eqB (tgt := 42) dX12_mustNumber_4 (by decide) (fun c4 => ?_) (fun c4 => ?_)
  · rw [if_neg (of_decide_eq_false c4)] at hp
    refine at_aload_n dX12_mustNumber_42 rfl ?_
    refine at_callV0 (d := D - 1) dX12_mustNumber_43 mv_X12_200 rfl (Nat.le_of_ble_eq_true rfl) (zq_r0 (by omega) (by omega) (by omega)) ?_
    refine zm_fine hq.2.1 ?_
    refine at_if_eqB (tgt := 59) dX12_mustNumber_46 (by decide) (fun c46 => ?_) (fun c46 => ?_)
    · try rw [zrd_s20]
      refine at_vret dX12_mustNumber_59 rfl (by omega) (by omega) ?_
      exact hp
    · exact absurd (of_decide_eq_true c46) (of_decide_eq_false c4)
  · have h0 := of_decide_eq_true c4
    rw [if_pos h0] at hp
    refine at_aload_n dX12_mustNumber_7 rfl ?_
    refine at_get dX12_mustNumber_8 fl_X12_71 rfl rfl ?_
    refine at_aload_n dX12_mustNumber_11 rfl ?_
    refine at_get dX12_mustNumber_12 fl_X12_204 rfl rfl ?_
    rw [zrd_20]
    refine at_mald (a := 80) dX12_mustNumber_15 (by decide) (by decide) (by decide) (by decide) rfl rfl (by show _ < 401; omega) (by decide) ?_
    rw [zrd_2, h1]
    refine at_bipush dX12_mustNumber_16 (v := nI 50) (by decide) ?_
    refine at_neN (tgt := 38) dX12_mustNumber_18 (by decide) (by omega) (by omega) (fun c18 => ?_) (fun c18 => ?_)
    · rw [if_neg (fun h => c18 h.1)] at hp
      refine at_aload_n dX12_mustNumber_38 rfl ?_
      refine at_callV0 (d := D - 1) dX12_mustNumber_39 mv_X12_210 rfl (Nat.le_of_ble_eq_true rfl) (zq_r0 (by omega) (by omega) (by omega)) ?_
      refine zm_faults (by omega) hT hq.1 hq.2.1 ?_
      refine at_aload_n dX12_mustNumber_42 rfl ?_
      refine at_callV0 (d := D - 1) dX12_mustNumber_43 mv_X12_200 rfl (Nat.le_of_ble_eq_true rfl) (zq_r0 (by omega) (by omega) (by omega)) ?_
      refine zm_fine f1 ?_
      refine at_if_eqB (tgt := 59) dX12_mustNumber_46 (by decide) (fun c46 => ?_) (fun c46 => ?_)
      · try rw [zrd_s20]
        refine at_vret dX12_mustNumber_59 rfl (by omega) (by omega) ?_
        exact hp
      · exact absurd (of_decide_eq_true c46) (by unfold zpf; rw [if_pos h0]; exact Nat.succ_ne_zero _)
    · refine at_aload_n dX12_mustNumber_21 rfl ?_
      refine at_get dX12_mustNumber_22 fl_X12_74 rfl rfl ?_
      refine at_aload_n dX12_mustNumber_25 rfl ?_
      refine at_get dX12_mustNumber_26 fl_X12_204 rfl rfl ?_
      rw [zrd_20]
      refine at_mald (a := 81) dX12_mustNumber_29 (by decide) (by decide) (by decide) (by decide) rfl rfl (by show _ < 401; omega) (by decide) ?_
      rw [zrd_2, h2]
      refine at_iload_n dX12_mustNumber_30 rfl ?_
      refine at_iload_n dX12_mustNumber_31 rfl ?_
      refine at_callS3 (d := D - 1) dX12_mustNumber_32 ms_X12_18 (Nat.le_of_ble_eq_true rfl) (zq_r0 (by omega) (by omega) (by omega)) ?_
      refine zm_lies ?_
      rw [hl]
      refine at_if_neB (tgt := 42) dX12_mustNumber_35 (by decide) (fun c35 => ?_) (fun c35 => ?_)
      · rw [if_pos ⟨c18, of_decide_eq_true c35⟩] at hp
        refine at_aload_n dX12_mustNumber_42 rfl ?_
        refine at_callV0 (d := D - 1) dX12_mustNumber_43 mv_X12_200 rfl (Nat.le_of_ble_eq_true rfl) (zq_r0 (by omega) (by omega) (by omega)) ?_
        refine zm_fine hq.2.1 ?_
        refine at_if_eqB (tgt := 59) dX12_mustNumber_46 (by decide) (fun c46 => ?_) (fun c46 => ?_)
        · exact absurd h0 (of_decide_eq_false c46)
        · refine at_aload_n dX12_mustNumber_49 rfl ?_
          refine at_dup dX12_mustNumber_50 rfl ?_
          refine at_get dX12_mustNumber_51 fl_X12_204 rfl rfl ?_
          rw [zrd_20]
          refine at_iconst dX12_mustNumber_54 (v := nI 1) (by decide) ?_
          refine at_iaddN dX12_mustNumber_55 ?_
          refine at_mput dX12_mustNumber_56 (pl_X12_204 _) (fun _ => ⟨_, rfl⟩) rfl rfl ?_
          try rw [zrd_s20]
          refine at_vret dX12_mustNumber_59 rfl (by omega) (by omega) ?_
          exact hp
      · rw [if_neg (fun h => absurd h.2 (of_decide_eq_false c35))] at hp
        refine at_aload_n dX12_mustNumber_38 rfl ?_
        refine at_callV0 (d := D - 1) dX12_mustNumber_39 mv_X12_210 rfl (Nat.le_of_ble_eq_true rfl) (zq_r0 (by omega) (by omega) (by omega)) ?_
        refine zm_faults (by omega) hT hq.1 hq.2.1 ?_
        refine at_aload_n dX12_mustNumber_42 rfl ?_
        refine at_callV0 (d := D - 1) dX12_mustNumber_43 mv_X12_200 rfl (Nat.le_of_ble_eq_true rfl) (zq_r0 (by omega) (by omega) (by omega)) ?_
        refine zm_fine f1 ?_
        refine at_if_eqB (tgt := 59) dX12_mustNumber_46 (by decide) (fun c46 => ?_) (fun c46 => ?_)
        · try rw [zrd_s20]
          refine at_vret dX12_mustNumber_59 rfl (by omega) (by omega) ?_
          exact hp
        · exact absurd (of_decide_eq_true c46) (by unfold zpf; rw [if_pos h0]; exact Nat.succ_ne_zero _)
/-- which words are parts: fw .. lw, whether they are orders -/
def zWd (σ : zm_S) (fw lw : Nat) (o : Bool) : Prop := σ.1 9 = nI fw ∧ σ.1 10 = nI lw ∧ σ.1 11 = zb o ∧ 0 < fw ∧ fw < 1000 ∧ lw < 1000
theorem zrd_o (σ : zm_S) (q : zQ) {j : Nat} (h1 : j ≠ 20) (h2 : j ≠ 21) (h3 : j ≠ 22) : (zrd σ q).1 j = σ.1 j := by simp [zrd, zm_si, upd, h1, h2, h3]
theorem zTk_pl (hT : zTk σ N c v pl) : ∀ j, j ≤ N → pl j ≤ 400 := fun j hj => (hT.2.2 j hj).2.2.2.2.2
theorem zm_readPart {D d : Nat} {q : zQ} {post : Option Value → Nat → (Nat → zq_E) → Prop} (hD : 3 ≤ D) (hd : d ≤ 8) (hT : zTk σ N c v pl) (hW : zWd σ fw lw o) (hq : zqk N q)
    (HR : d ≠ 0 → ∀ (q' : zQ) (post' : Option Value → Nat → (Nat → zq_E) → Prop), zqk N q' → post' none n (zm_h (zrd σ (zpR c v pl fw lw o d q')) ρ) → zq_Runs l G (D - 1) 0 0 yX12_readSum [.ref 70, .int (nI (8 - d + 1))] n (zm_h (zrd σ q') ρ) post')
    (hp : post none n (zm_h (zrd σ (zpP c v pl fw lw o d q)) ρ)) : zq_Runs l G D 0 0 yX12_readPart [.ref 70, .int (nI (8 - d))] n (zm_h (zrd σ q) ρ) post := by
  have hN := hT.1
  have hqN := hq.1
  have hpl := zTk_pl hT
  obtain ⟨h1, h2, -, h3, h4, -⟩ := hT.2.2 q.1 hq.1
  obtain ⟨f1, f2, f3⟩ := zpf_b hT hq.1 hq.2.1
  obtain ⟨w1, w2, w3, w4, w5, w6⟩ := hW
  have e9 : ∀ q', (zrd σ q').1 9 = nI fw := fun q' => (zrd_o σ q' (by decide) (by decide) (by decide)).trans w1
  have e10 : ∀ q', (zrd σ q').1 10 = nI lw := fun q' => (zrd_o σ q' (by decide) (by decide) (by decide)).trans w2
  have e11 : ∀ q', (zrd σ q').1 11 = zb o := fun q' => (zrd_o σ q' (by decide) (by decide) (by decide)).trans w3
  unfold zpP zpPart at hp
  refine zq_enter (cc := cX12_readPart) (nL := 3) (ret := none) cw_X12_readPart (by decide) rfl (Nat.le_of_ble_eq_true rfl) ?_
  refine at_aload_n dX12_readPart_0 rfl ?_
  refine at_callV0 (d := D - 1) dX12_readPart_1 mv_X12_200 rfl (Nat.le_of_ble_eq_true rfl) (zq_r0 (by omega) (by omega) (by omega)) ?_
  refine zm_fine hq.2.1 ?_
  refine at_if_neB (tgt := 8) dX12_readPart_4 (by decide) (fun c4 => ?_) (fun c4 => ?_)
  · have h0 := of_decide_eq_true c4
    rw [if_neg (fun h => h h0)] at hp
    have hlt : c q.1 ≠ 0 → q.1 < N := fun hne => by
      rcases Nat.lt_or_ge q.1 N with h | h
      · exact h
      · exact absurd (by rw [show q.1 = N by omega]; exact hT.2.1) hne
    refine at_aload_n dX12_readPart_8 rfl ?_
    refine at_get dX12_readPart_9 fl_X12_71 rfl rfl ?_
    refine at_aload_n dX12_readPart_12 rfl ?_
    refine at_get dX12_readPart_13 fl_X12_204 rfl rfl ?_
    rw [zrd_20]
    refine at_mald (a := 80) dX12_readPart_16 (by decide) (by decide) (by decide) (by decide) rfl rfl (by show _ < 401; omega) (by decide) ?_
    rw [zrd_2, h1]
    refine at_istore_n dX12_readPart_17 rfl (by decide) ?_
    refine at_iload_n dX12_readPart_18 rfl ?_
    refine at_bipush dX12_readPart_19 (v := nI 91) (by decide) ?_
    refine at_callS1 (d := D - 1) dX12_readPart_21 ms_X12_245 (Nat.le_of_ble_eq_true rfl) (zq_r0 (by omega) (by omega) (by omega)) ?_
    refine zm_sign ?_
    refine at_neN (tgt := 74) dX12_readPart_24 (by decide) (by omega) (by omega) (fun c24 => ?_) (fun c24 => ?_)
    · rw [if_neg c24] at hp
      refine at_iload_n dX12_readPart_74 rfl ?_
      refine at_bipush dX12_readPart_75 (v := nI 50) (by decide) ?_
      refine at_neN (tgt := 95) dX12_readPart_77 (by decide) (by omega) (by omega) (fun c77 => ?_) (fun c77 => ?_)
      · have h50 : ¬ (c q.1 = 50 ∧ v q.1 ≤ 1000) := fun h => c77 h.1
        refine at_iload_n dX12_readPart_95 rfl ?_
        refine at_aload_n dX12_readPart_96 rfl ?_
        refine at_get dX12_readPart_97 fl_X12_255 rfl rfl ?_
        rw [e9]
        refine at_ltN (tgt := 144) dX12_readPart_100 (by decide) (by omega) (by omega) (fun c100 => ?_) (fun c100 => ?_)
        · rw [if_neg (fun h => by rcases h with h | h; exact h50 h; omega)] at hp
          refine at_aload_n dX12_readPart_144 rfl ?_
          refine at_callV0 (d := D - 1) dX12_readPart_145 mv_X12_210 rfl (Nat.le_of_ble_eq_true rfl) (zq_r0 (by omega) (by omega) (by omega)) ?_
          refine zm_faults (by omega) hT hq.1 hq.2.1 ?_
          refine at_vret dX12_readPart_148 rfl (by omega) (by omega) ?_
          exact hp
        · refine at_iload_n dX12_readPart_103 rfl ?_
          refine at_aload_n dX12_readPart_104 rfl ?_
          refine at_get dX12_readPart_105 fl_X12_258 rfl rfl ?_
          rw [e10]
          refine at_gtN (tgt := 144) dX12_readPart_108 (by decide) (by omega) (by omega) (fun c108 => ?_) (fun c108 => ?_)
          · rw [if_neg (fun h => by rcases h with h | h; exact h50 h; omega)] at hp
            refine at_aload_n dX12_readPart_144 rfl ?_
            refine at_callV0 (d := D - 1) dX12_readPart_145 mv_X12_210 rfl (Nat.le_of_ble_eq_true rfl) (zq_r0 (by omega) (by omega) (by omega)) ?_
            refine zm_faults (by omega) hT hq.1 hq.2.1 ?_
            refine at_vret dX12_readPart_148 rfl (by omega) (by omega) ?_
            exact hp
          · have hok : (c q.1 = 50 ∧ v q.1 ≤ 1000) ∨ (fw ≤ c q.1 ∧ c q.1 ≤ lw) := Or.inr ⟨c100, c108⟩
            rw [if_pos hok] at hp
            refine at_aload_n dX12_readPart_111 rfl ?_
            refine at_callV0 (d := D - 1) dX12_readPart_112 mv_X12_261 rfl (Nat.le_of_ble_eq_true rfl) (zq_r0 (by omega) (by omega) (by omega)) ?_
            refine zm_leaf (by omega) hT hq.1 hq.2.1 (by have := hq.2.2.2; omega) ?_
            refine at_aload_n dX12_readPart_115 rfl ?_
            refine at_get dX12_readPart_116 fl_X12_229 rfl rfl ?_
            rw [e11]
            refine at_if_eqB (tgt := 148) dX12_readPart_119 (by decide) (fun c119 => ?_) (fun c119 => ?_)
            · rw [if_neg (fun h => by rw [c119] at h; exact absurd h.1 (by decide))] at hp
              refine at_vret dX12_readPart_148 rfl (by omega) (by omega) ?_
              exact hp
            · refine at_iload_n dX12_readPart_122 rfl ?_
              refine at_bipush dX12_readPart_123 (v := nI 20) (by decide) ?_
              refine at_eqN (tgt := 134) dX12_readPart_125 (by decide) (by omega) (by omega) (fun c125 => ?_) (fun c125 => ?_)
              · rw [if_pos ⟨c119, Or.inl c125⟩] at hp
                refine at_aload_n dX12_readPart_134 rfl ?_
                refine at_iconst dX12_readPart_135 (v := nI 0) (by decide) ?_
                refine at_bipush dX12_readPart_136 (v := nI 6) (by decide) ?_
                refine at_callV2 (d := D - 1) dX12_readPart_138 mv_X12_225 rfl (Nat.le_of_ble_eq_true rfl) (zq_r0 (by omega) (by omega) (by omega)) ?_
                refine zm_mustNumber (by omega) hT (zgd_leaf hN hpl hq (hlt (by rcases hok with h | h <;> omega)) h0).1 (by decide) (by decide) ?_
                refine at_goto (tgt := 148) dX12_readPart_141 (by decide) ?_
                refine at_vret dX12_readPart_148 rfl (by omega) (by omega) ?_
                exact hp
              · refine at_iload_n dX12_readPart_128 rfl ?_
                refine at_bipush dX12_readPart_129 (v := nI 21) (by decide) ?_
                refine at_neN (tgt := 148) dX12_readPart_131 (by decide) (by omega) (by omega) (fun c131 => ?_) (fun c131 => ?_)
                · rw [if_neg (fun h => by rcases h.2 with h | h; exact c125 h; exact c131 h)] at hp
                  refine at_vret dX12_readPart_148 rfl (by omega) (by omega) ?_
                  exact hp
                · rw [if_pos ⟨c119, Or.inr c131⟩] at hp
                  refine at_aload_n dX12_readPart_134 rfl ?_
                  refine at_iconst dX12_readPart_135 (v := nI 0) (by decide) ?_
                  refine at_bipush dX12_readPart_136 (v := nI 6) (by decide) ?_
                  refine at_callV2 (d := D - 1) dX12_readPart_138 mv_X12_225 rfl (Nat.le_of_ble_eq_true rfl) (zq_r0 (by omega) (by omega) (by omega)) ?_
                  refine zm_mustNumber (by omega) hT (zgd_leaf hN hpl hq (hlt (by rcases hok with h | h <;> omega)) h0).1 (by decide) (by decide) ?_
                  refine at_goto (tgt := 148) dX12_readPart_141 (by decide) ?_
                  refine at_vret dX12_readPart_148 rfl (by omega) (by omega) ?_
                  exact hp
      · refine at_aload_n dX12_readPart_80 rfl ?_
        refine at_get dX12_readPart_81 fl_X12_74 rfl rfl ?_
        refine at_aload_n dX12_readPart_84 rfl ?_
        refine at_get dX12_readPart_85 fl_X12_204 rfl rfl ?_
        rw [zrd_20]
        refine at_mald (a := 81) dX12_readPart_88 (by decide) (by decide) (by decide) (by decide) rfl rfl (by show _ < 401; omega) (by decide) ?_
        rw [zrd_2, h2]
        refine at_sipush dX12_readPart_89 (v := nI 1000) (by decide) ?_
        refine at_leN (tgt := 111) dX12_readPart_92 (by decide) (by omega) (by omega) (fun c92 => ?_) (fun c92 => ?_)
        · have hok : (c q.1 = 50 ∧ v q.1 ≤ 1000) ∨ (fw ≤ c q.1 ∧ c q.1 ≤ lw) := Or.inl ⟨c77, c92⟩
          rw [if_pos hok] at hp
          refine at_aload_n dX12_readPart_111 rfl ?_
          refine at_callV0 (d := D - 1) dX12_readPart_112 mv_X12_261 rfl (Nat.le_of_ble_eq_true rfl) (zq_r0 (by omega) (by omega) (by omega)) ?_
          refine zm_leaf (by omega) hT hq.1 hq.2.1 (by have := hq.2.2.2; omega) ?_
          refine at_aload_n dX12_readPart_115 rfl ?_
          refine at_get dX12_readPart_116 fl_X12_229 rfl rfl ?_
          rw [e11]
          refine at_if_eqB (tgt := 148) dX12_readPart_119 (by decide) (fun c119 => ?_) (fun c119 => ?_)
          · rw [if_neg (fun h => by rw [c119] at h; exact absurd h.1 (by decide))] at hp
            refine at_vret dX12_readPart_148 rfl (by omega) (by omega) ?_
            exact hp
          · refine at_iload_n dX12_readPart_122 rfl ?_
            refine at_bipush dX12_readPart_123 (v := nI 20) (by decide) ?_
            refine at_eqN (tgt := 134) dX12_readPart_125 (by decide) (by omega) (by omega) (fun c125 => ?_) (fun c125 => ?_)
            · rw [if_pos ⟨c119, Or.inl c125⟩] at hp
              refine at_aload_n dX12_readPart_134 rfl ?_
              refine at_iconst dX12_readPart_135 (v := nI 0) (by decide) ?_
              refine at_bipush dX12_readPart_136 (v := nI 6) (by decide) ?_
              refine at_callV2 (d := D - 1) dX12_readPart_138 mv_X12_225 rfl (Nat.le_of_ble_eq_true rfl) (zq_r0 (by omega) (by omega) (by omega)) ?_
              refine zm_mustNumber (by omega) hT (zgd_leaf hN hpl hq (hlt (by rcases hok with h | h <;> omega)) h0).1 (by decide) (by decide) ?_
              refine at_goto (tgt := 148) dX12_readPart_141 (by decide) ?_
              refine at_vret dX12_readPart_148 rfl (by omega) (by omega) ?_
              exact hp
            · refine at_iload_n dX12_readPart_128 rfl ?_
              refine at_bipush dX12_readPart_129 (v := nI 21) (by decide) ?_
              refine at_neN (tgt := 148) dX12_readPart_131 (by decide) (by omega) (by omega) (fun c131 => ?_) (fun c131 => ?_)
              · rw [if_neg (fun h => by rcases h.2 with h | h; exact c125 h; exact c131 h)] at hp
                refine at_vret dX12_readPart_148 rfl (by omega) (by omega) ?_
                exact hp
              · rw [if_pos ⟨c119, Or.inr c131⟩] at hp
                refine at_aload_n dX12_readPart_134 rfl ?_
                refine at_iconst dX12_readPart_135 (v := nI 0) (by decide) ?_
                refine at_bipush dX12_readPart_136 (v := nI 6) (by decide) ?_
                refine at_callV2 (d := D - 1) dX12_readPart_138 mv_X12_225 rfl (Nat.le_of_ble_eq_true rfl) (zq_r0 (by omega) (by omega) (by omega)) ?_
                refine zm_mustNumber (by omega) hT (zgd_leaf hN hpl hq (hlt (by rcases hok with h | h <;> omega)) h0).1 (by decide) (by decide) ?_
                refine at_goto (tgt := 148) dX12_readPart_141 (by decide) ?_
                refine at_vret dX12_readPart_148 rfl (by omega) (by omega) ?_
                exact hp
        · have h50 : ¬ (c q.1 = 50 ∧ v q.1 ≤ 1000) := fun h => by omega
          refine at_iload_n dX12_readPart_95 rfl ?_
          refine at_aload_n dX12_readPart_96 rfl ?_
          refine at_get dX12_readPart_97 fl_X12_255 rfl rfl ?_
          rw [e9]
          refine at_ltN (tgt := 144) dX12_readPart_100 (by decide) (by omega) (by omega) (fun c100 => ?_) (fun c100 => ?_)
          · rw [if_neg (fun h => by rcases h with h | h; exact h50 h; omega)] at hp
            refine at_aload_n dX12_readPart_144 rfl ?_
            refine at_callV0 (d := D - 1) dX12_readPart_145 mv_X12_210 rfl (Nat.le_of_ble_eq_true rfl) (zq_r0 (by omega) (by omega) (by omega)) ?_
            refine zm_faults (by omega) hT hq.1 hq.2.1 ?_
            refine at_vret dX12_readPart_148 rfl (by omega) (by omega) ?_
            exact hp
          · refine at_iload_n dX12_readPart_103 rfl ?_
            refine at_aload_n dX12_readPart_104 rfl ?_
            refine at_get dX12_readPart_105 fl_X12_258 rfl rfl ?_
            rw [e10]
            refine at_gtN (tgt := 144) dX12_readPart_108 (by decide) (by omega) (by omega) (fun c108 => ?_) (fun c108 => ?_)
            · rw [if_neg (fun h => by rcases h with h | h; exact h50 h; omega)] at hp
              refine at_aload_n dX12_readPart_144 rfl ?_
              refine at_callV0 (d := D - 1) dX12_readPart_145 mv_X12_210 rfl (Nat.le_of_ble_eq_true rfl) (zq_r0 (by omega) (by omega) (by omega)) ?_
              refine zm_faults (by omega) hT hq.1 hq.2.1 ?_
              refine at_vret dX12_readPart_148 rfl (by omega) (by omega) ?_
              exact hp
            · have hok : (c q.1 = 50 ∧ v q.1 ≤ 1000) ∨ (fw ≤ c q.1 ∧ c q.1 ≤ lw) := Or.inr ⟨c100, c108⟩
              rw [if_pos hok] at hp
              refine at_aload_n dX12_readPart_111 rfl ?_
              refine at_callV0 (d := D - 1) dX12_readPart_112 mv_X12_261 rfl (Nat.le_of_ble_eq_true rfl) (zq_r0 (by omega) (by omega) (by omega)) ?_
              refine zm_leaf (by omega) hT hq.1 hq.2.1 (by have := hq.2.2.2; omega) ?_
              refine at_aload_n dX12_readPart_115 rfl ?_
              refine at_get dX12_readPart_116 fl_X12_229 rfl rfl ?_
              rw [e11]
              refine at_if_eqB (tgt := 148) dX12_readPart_119 (by decide) (fun c119 => ?_) (fun c119 => ?_)
              · rw [if_neg (fun h => by rw [c119] at h; exact absurd h.1 (by decide))] at hp
                refine at_vret dX12_readPart_148 rfl (by omega) (by omega) ?_
                exact hp
              · refine at_iload_n dX12_readPart_122 rfl ?_
                refine at_bipush dX12_readPart_123 (v := nI 20) (by decide) ?_
                refine at_eqN (tgt := 134) dX12_readPart_125 (by decide) (by omega) (by omega) (fun c125 => ?_) (fun c125 => ?_)
                · rw [if_pos ⟨c119, Or.inl c125⟩] at hp
                  refine at_aload_n dX12_readPart_134 rfl ?_
                  refine at_iconst dX12_readPart_135 (v := nI 0) (by decide) ?_
                  refine at_bipush dX12_readPart_136 (v := nI 6) (by decide) ?_
                  refine at_callV2 (d := D - 1) dX12_readPart_138 mv_X12_225 rfl (Nat.le_of_ble_eq_true rfl) (zq_r0 (by omega) (by omega) (by omega)) ?_
                  refine zm_mustNumber (by omega) hT (zgd_leaf hN hpl hq (hlt (by rcases hok with h | h <;> omega)) h0).1 (by decide) (by decide) ?_
                  refine at_goto (tgt := 148) dX12_readPart_141 (by decide) ?_
                  refine at_vret dX12_readPart_148 rfl (by omega) (by omega) ?_
                  exact hp
                · refine at_iload_n dX12_readPart_128 rfl ?_
                  refine at_bipush dX12_readPart_129 (v := nI 21) (by decide) ?_
                  refine at_neN (tgt := 148) dX12_readPart_131 (by decide) (by omega) (by omega) (fun c131 => ?_) (fun c131 => ?_)
                  · rw [if_neg (fun h => by rcases h.2 with h | h; exact c125 h; exact c131 h)] at hp
                    refine at_vret dX12_readPart_148 rfl (by omega) (by omega) ?_
                    exact hp
                  · rw [if_pos ⟨c119, Or.inr c131⟩] at hp
                    refine at_aload_n dX12_readPart_134 rfl ?_
                    refine at_iconst dX12_readPart_135 (v := nI 0) (by decide) ?_
                    refine at_bipush dX12_readPart_136 (v := nI 6) (by decide) ?_
                    refine at_callV2 (d := D - 1) dX12_readPart_138 mv_X12_225 rfl (Nat.le_of_ble_eq_true rfl) (zq_r0 (by omega) (by omega) (by omega)) ?_
                    refine zm_mustNumber (by omega) hT (zgd_leaf hN hpl hq (hlt (by rcases hok with h | h <;> omega)) h0).1 (by decide) (by decide) ?_
                    refine at_goto (tgt := 148) dX12_readPart_141 (by decide) ?_
                    refine at_vret dX12_readPart_148 rfl (by omega) (by omega) ?_
                    exact hp
    · rw [if_pos c24] at hp
      refine at_iload_n dX12_readPart_27 rfl ?_
      refine at_bipush dX12_readPart_28 (v := nI 8) (by decide) ?_
      refine at_neN (tgt := 37) dX12_readPart_30 (by decide) (by omega) (by omega) (fun c30 => ?_) (fun c30 => ?_)
      · have hd0 : d ≠ 0 := by omega
        rw [if_neg (by rw [decide_eq_false hd0]; decide)] at hp
        have hqn := zqk_n hq hN (hlt (by omega)) h0
        have gR := zgd_R (o := o) (lw := lw) (v := v) hN hT.2.1 hpl w4 d (zpn q) hqn
        refine at_aload_n dX12_readPart_37 rfl ?_
        refine at_callV0 (d := D - 1) dX12_readPart_38 mv_X12_200 rfl (Nat.le_of_ble_eq_true rfl) (zq_r0 (by omega) (by omega) (by omega)) ?_
        refine zm_fine hq.2.1 ?_
        refine at_if_neB (tgt := 45) dX12_readPart_41 (by decide) (fun c41 => ?_) (fun c41 => ?_)
        · refine at_aload_n dX12_readPart_45 rfl ?_
          refine at_dup dX12_readPart_46 rfl ?_
          refine at_get dX12_readPart_47 fl_X12_204 rfl rfl ?_
          rw [zrd_20]
          refine at_iconst dX12_readPart_50 (v := nI 1) (by decide) ?_
          refine at_iaddN dX12_readPart_51 ?_
          refine at_mput dX12_readPart_52 (pl_X12_204 _) (fun _ => ⟨_, rfl⟩) rfl rfl ?_
          rw [zrd_s20]
          refine at_aload_n dX12_readPart_55 rfl ?_
          refine at_iload_n dX12_readPart_56 rfl ?_
          refine at_iconst dX12_readPart_57 (v := nI 1) (by decide) ?_
          refine at_iaddN dX12_readPart_58 ?_
          refine at_callV1 (d := D - 1) dX12_readPart_59 mv_X12_216 rfl (Nat.le_of_ble_eq_true rfl) (zq_r0 (by omega) (by omega) (by omega)) ?_
          refine HR hd0 (zpn q) _ hqn ?_
          refine at_aload_n dX12_readPart_62 rfl ?_
          refine at_bipush dX12_readPart_63 (v := nI 93) (by decide) ?_
          refine at_callS1 (d := D - 1) dX12_readPart_65 ms_X12_245 (Nat.le_of_ble_eq_true rfl) (zq_r0 (by omega) (by omega) (by omega)) ?_
          refine zm_sign ?_
          refine at_callV1 (d := D - 1) dX12_readPart_68 mv_X12_219 rfl (Nat.le_of_ble_eq_true rfl) (zq_r0 (by omega) (by omega) (by omega)) ?_
          refine zm_must (by omega) (by decide) hT gR.1.1 gR.1.2.1 ?_
          refine at_goto (tgt := 148) dX12_readPart_71 (by decide) ?_
          refine at_vret dX12_readPart_148 rfl (by omega) (by omega) ?_
          exact hp
        · exact absurd h0 (of_decide_eq_false c41)
      · obtain rfl : d = 0 := by omega
        rw [if_pos (show decide (0 = 0) = true from rfl)] at hp
        refine at_aload_n dX12_readPart_33 rfl ?_
        refine at_callV0 (d := D - 1) dX12_readPart_34 mv_X12_210 rfl (Nat.le_of_ble_eq_true rfl) (zq_r0 (by omega) (by omega) (by omega)) ?_
        refine zm_faults (by omega) hT hq.1 hq.2.1 ?_
        refine at_aload_n dX12_readPart_37 rfl ?_
        refine at_callV0 (d := D - 1) dX12_readPart_38 mv_X12_200 rfl (Nat.le_of_ble_eq_true rfl) (zq_r0 (by omega) (by omega) (by omega)) ?_
        refine zm_fine f1 ?_
        refine at_if_neB (tgt := 45) dX12_readPart_41 (by decide) (fun c41 => ?_) (fun c41 => ?_)
        · exact absurd (of_decide_eq_true c41) (by unfold zpf; rw [if_pos h0]; exact Nat.succ_ne_zero _)
        · refine at_vret dX12_readPart_44 rfl (by omega) (by omega) ?_
          exact hp
  · rw [if_pos (of_decide_eq_false c4)] at hp
    refine at_vret dX12_readPart_7 rfl (by omega) (by omega) ?_
    exact hp
theorem zm_readTerm_loop {D d : Nat} {post : Option Value → Nat → (Nat → zq_E) → Prop} {P : zQ → zQ} (hD : 2 ≤ D) (hT : zTk σ N c v pl) (hP : zgd N P)
    (HP : ∀ (q' : zQ) (post' : Option Value → Nat → (Nat → zq_E) → Prop), zqk N q' → post' none n (zm_h (zrd σ (P q')) ρ) → zq_Runs l G (D - 1) 0 0 yX12_readPart [.ref 70, .int (nI d)] n (zm_h (zrd σ q') ρ) post') : ∀ (f : Nat) (q : zQ), zqk N q → N - q.1 < f → post none n (zm_h (zrd σ (zpL c [142, 147, 137] P f q)) ρ) → zq_At l G (zq_rm D 0 0) mX12_readTerm (zq_QF G post 0 0) 5 [(0, .ref 70), (1, .int (nI d))] [] n (zm_h (zrd σ q) ρ) 0 0 := by
  have hN := hT.1
  intro f
  induction f with
  | zero => intro q hq hf; omega
  | succ f ih =>
    intro q hq hf hp
    unfold zpL at hp
    have go : ∀ k, k ≠ 0 → zpt c q k = true → [142, 147, 137].any (fun k => zpt c q k) = true → (zqk N (zpn q) ∧ zq_At l G (zq_rm D 0 0) mX12_readTerm (zq_QF G post 0 0) 5 [(0, .ref 70), (1, .int (nI d))] [] n (zm_h (zrd σ (P (zpn q))) ρ) 0 0) := fun k hk hz ha => by
      obtain ⟨g1, g2⟩ := zpt_lt hT.2.1 hq.1 hk hz
      have hqn := zqk_n hq hN g1 g2
      have gP := hP (zpn q) hqn
      rw [if_pos ha] at hp
      exact ⟨hqn, ih _ gP.1 (by have h3 := gP.2.1; have : (zpn q).1 = q.1 + 1 := rfl; omega) hp⟩
    refine at_aload_n dX12_readTerm_5 rfl ?_
    refine at_bipush dX12_readTerm_6 (v := nI 42) (by decide) ?_
    refine at_callS1 (d := D - 1) dX12_readTerm_8 ms_X12_245 (Nat.le_of_ble_eq_true rfl) (zq_r0 (by omega) (by omega) (by omega)) ?_
    refine zm_sign ?_
    refine at_callV1 (d := D - 1) dX12_readTerm_11 mv_X12_207 rfl (Nat.le_of_ble_eq_true rfl) (zq_r0 (by omega) (by omega) (by omega)) ?_
    refine zm_takes0 (by omega) (by decide) hT hq.1 hq.2.1 ?_
    refine at_if_neB (tgt := 41) dX12_readTerm_14 (by decide) (fun c14 => ?_) (fun c14 => ?_)
    · rw [if_pos c14]
      obtain ⟨hqn, hgo⟩ := go 142 (by decide) c14 (by simp [c14])
      refine at_aload_n dX12_readTerm_41 rfl ?_
      refine at_iload_n dX12_readTerm_42 rfl ?_
      refine at_callV1 (d := D - 1) dX12_readTerm_43 mv_X12_252 rfl (Nat.le_of_ble_eq_true rfl) (zq_r0 (by omega) (by omega) (by omega)) ?_
      refine HP (zpn q) _ hqn ?_
      refine at_goto (tgt := 5) dX12_readTerm_46 (by decide) ?_
      exact hgo
    · rw [if_neg (by rw [c14]; decide)]
      refine at_aload_n dX12_readTerm_17 rfl ?_
      refine at_bipush dX12_readTerm_18 (v := nI 47) (by decide) ?_
      refine at_callS1 (d := D - 1) dX12_readTerm_20 ms_X12_245 (Nat.le_of_ble_eq_true rfl) (zq_r0 (by omega) (by omega) (by omega)) ?_
      refine zm_sign ?_
      refine at_callV1 (d := D - 1) dX12_readTerm_23 mv_X12_207 rfl (Nat.le_of_ble_eq_true rfl) (zq_r0 (by omega) (by omega) (by omega)) ?_
      refine zm_takes0 (by omega) (by decide) hT hq.1 hq.2.1 ?_
      refine at_if_neB (tgt := 41) dX12_readTerm_26 (by decide) (fun c26 => ?_) (fun c26 => ?_)
      · rw [if_pos c26]
        obtain ⟨hqn, hgo⟩ := go 147 (by decide) c26 (by simp [c26])
        refine at_aload_n dX12_readTerm_41 rfl ?_
        refine at_iload_n dX12_readTerm_42 rfl ?_
        refine at_callV1 (d := D - 1) dX12_readTerm_43 mv_X12_252 rfl (Nat.le_of_ble_eq_true rfl) (zq_r0 (by omega) (by omega) (by omega)) ?_
        refine HP (zpn q) _ hqn ?_
        refine at_goto (tgt := 5) dX12_readTerm_46 (by decide) ?_
        exact hgo
      · rw [if_neg (by rw [c26]; decide)]
        refine at_aload_n dX12_readTerm_29 rfl ?_
        refine at_bipush dX12_readTerm_30 (v := nI 37) (by decide) ?_
        refine at_callS1 (d := D - 1) dX12_readTerm_32 ms_X12_245 (Nat.le_of_ble_eq_true rfl) (zq_r0 (by omega) (by omega) (by omega)) ?_
        refine zm_sign ?_
        refine at_callV1 (d := D - 1) dX12_readTerm_35 mv_X12_207 rfl (Nat.le_of_ble_eq_true rfl) (zq_r0 (by omega) (by omega) (by omega)) ?_
        refine zm_takes0 (by omega) (by decide) hT hq.1 hq.2.1 ?_
        refine at_if_eqB (tgt := 49) dX12_readTerm_38 (by decide) (fun c38 => ?_) (fun c38 => ?_)
        · rw [if_neg (by rw [c38]; decide)]
          rw [if_neg (by simp only [List.any_cons, List.any_nil, c14, c26, c38]; decide)] at hp
          refine at_vret dX12_readTerm_49 rfl (by omega) (by omega) ?_
          exact hp
        · rw [if_pos c38]
          obtain ⟨hqn, hgo⟩ := go 137 (by decide) c38 (by simp [c38])
          refine at_aload_n dX12_readTerm_41 rfl ?_
          refine at_iload_n dX12_readTerm_42 rfl ?_
          refine at_callV1 (d := D - 1) dX12_readTerm_43 mv_X12_252 rfl (Nat.le_of_ble_eq_true rfl) (zq_r0 (by omega) (by omega) (by omega)) ?_
          refine HP (zpn q) _ hqn ?_
          refine at_goto (tgt := 5) dX12_readTerm_46 (by decide) ?_
          exact hgo
theorem zm_readTerm {D d : Nat} {q : zQ} {post : Option Value → Nat → (Nat → zq_E) → Prop} {P : zQ → zQ} (hD : 2 ≤ D) (hT : zTk σ N c v pl) (hP : zgd N P) (hq : zqk N q)
    (HP : ∀ (q' : zQ) (post' : Option Value → Nat → (Nat → zq_E) → Prop), zqk N q' → post' none n (zm_h (zrd σ (P q')) ρ) → zq_Runs l G (D - 1) 0 0 yX12_readPart [.ref 70, .int (nI d)] n (zm_h (zrd σ q') ρ) post')
    (hp : post none n (zm_h (zrd σ (zpTerm c P q)) ρ)) : zq_Runs l G D 0 0 yX12_readTerm [.ref 70, .int (nI d)] n (zm_h (zrd σ q) ρ) post := by
  have hN := hT.1
  refine zq_enter (cc := cX12_readTerm) (nL := 2) (ret := none) cw_X12_readTerm (by decide) rfl (Nat.le_of_ble_eq_true rfl) ?_
  refine at_aload_n dX12_readTerm_0 rfl ?_
  refine at_iload_n dX12_readTerm_1 rfl ?_
  refine at_callV1 (d := D - 1) dX12_readTerm_2 mv_X12_252 rfl (Nat.le_of_ble_eq_true rfl) (zq_r0 (by omega) (by omega) (by omega)) ?_
  refine HP q _ hq ?_
  exact zm_readTerm_loop hD hT hP HP 402 (P q) (hP q hq).1 (by omega) hp
end ZL13

