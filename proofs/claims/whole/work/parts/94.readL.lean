/-! ===== the class: a text's clauses ===== -/
theorem dX8_read_0 : decode cX8_read 0 = .ok (.aload_n 0, 1) := by decide +kernel
theorem dX8_read_1 : decode cX8_read 1 = .ok (.aload_n 1, 1) := by decide +kernel
theorem dX8_read_2 : decode cX8_read 2 = .ok (.iload_n 2, 1) := by decide +kernel
theorem dX8_read_3 : decode cX8_read 3 = .ok (.sipush 400, 3) := by decide +kernel
theorem dX8_read_6 : decode cX8_read 6 = .ok (.invokestatic 41, 3) := by decide +kernel
theorem dX8_read_9 : decode cX8_read 9 = .ok (.invokevirtual 47, 3) := by decide +kernel
theorem dX8_read_12 : decode cX8_read 12 = .ok (.aload_n 0, 1) := by decide +kernel
theorem dX8_read_13 : decode cX8_read 13 = .ok (.iload_n 3, 1) := by decide +kernel
theorem dX8_read_14 : decode cX8_read 14 = .ok (.putfield 37, 3) := by decide +kernel
theorem dX8_read_17 : decode cX8_read 17 = .ok (.aload_n 0, 1) := by decide +kernel
theorem dX8_read_18 : decode cX8_read 18 = .ok (.iconst 0, 1) := by decide +kernel
theorem dX8_read_19 : decode cX8_read 19 = .ok (.putfield 18, 3) := by decide +kernel
theorem dX8_read_22 : decode cX8_read 22 = .ok (.aload_n 0, 1) := by decide +kernel
theorem dX8_read_23 : decode cX8_read 23 = .ok (.aload_n 0, 1) := by decide +kernel
theorem dX8_read_24 : decode cX8_read 24 = .ok (.getfield 11, 3) := by decide +kernel
theorem dX8_read_27 : decode cX8_read 27 = .ok (.iconst 0, 1) := by decide +kernel
theorem dX8_read_28 : decode cX8_read 28 = .ok (.iaload, 1) := by decide +kernel
theorem dX8_read_29 : decode cX8_read 29 = .ok (.putfield 22, 3) := by decide +kernel
theorem dX8_read_32 : decode cX8_read 32 = .ok (.aload_n 0, 1) := by decide +kernel
theorem dX8_read_33 : decode cX8_read 33 = .ok (.iconst 0, 1) := by decide +kernel
theorem dX8_read_34 : decode cX8_read 34 = .ok (.putfield 28, 3) := by decide +kernel
theorem dX8_read_37 : decode cX8_read 37 = .ok (.aload_n 0, 1) := by decide +kernel
theorem dX8_read_38 : decode cX8_read 38 = .ok (.iconst 0, 1) := by decide +kernel
theorem dX8_read_39 : decode cX8_read 39 = .ok (.putfield 31, 3) := by decide +kernel
theorem dX8_read_42 : decode cX8_read 42 = .ok (.aload_n 0, 1) := by decide +kernel
theorem dX8_read_43 : decode cX8_read 43 = .ok (.iconst (-1), 1) := by decide +kernel
theorem dX8_read_44 : decode cX8_read 44 = .ok (.putfield 34, 3) := by decide +kernel
theorem dX8_read_47 : decode cX8_read 47 = .ok (.new 51, 3) := by decide +kernel
theorem dX8_read_50 : decode cX8_read 50 = .ok (.dup, 1) := by decide +kernel
theorem dX8_read_51 : decode cX8_read 51 = .ok (.invokespecial 53, 3) := by decide +kernel
theorem dX8_read_54 : decode cX8_read 54 = .ok (.astore 4, 2) := by decide +kernel
theorem dX8_read_56 : decode cX8_read 56 = .ok (.aload_n 0, 1) := by decide +kernel
theorem dX8_read_57 : decode cX8_read 57 = .ok (.aload 4, 2) := by decide +kernel
theorem dX8_read_59 : decode cX8_read 59 = .ok (.invokevirtual 54, 3) := by decide +kernel
theorem dX8_read_62 : decode cX8_read 62 = .ok (.iconst 0, 1) := by decide +kernel
theorem dX8_read_63 : decode cX8_read 63 = .ok (.istore 5, 2) := by decide +kernel
theorem dX8_read_65 : decode cX8_read 65 = .ok (.iload 5, 2) := by decide +kernel
theorem dX8_read_67 : decode cX8_read 67 = .ok (.sipush 400, 3) := by decide +kernel
theorem dX8_read_70 : decode cX8_read 70 = .ok (.if_icmp .ge 28, 3) := by decide +kernel
theorem dX8_read_73 : decode cX8_read 73 = .ok (.aload_n 0, 1) := by decide +kernel
theorem dX8_read_74 : decode cX8_read 74 = .ok (.getfield 22, 3) := by decide +kernel
theorem dX8_read_77 : decode cX8_read 77 = .ok (.bipush 59, 2) := by decide +kernel
theorem dX8_read_79 : decode cX8_read 79 = .ok (.if_icmp .ne 19, 3) := by decide +kernel
theorem dX8_read_82 : decode cX8_read 82 = .ok (.aload_n 0, 1) := by decide +kernel
theorem dX8_read_83 : decode cX8_read 83 = .ok (.invokevirtual 58, 3) := by decide +kernel
theorem dX8_read_86 : decode cX8_read 86 = .ok (.aload_n 0, 1) := by decide +kernel
theorem dX8_read_87 : decode cX8_read 87 = .ok (.aload 4, 2) := by decide +kernel
theorem dX8_read_89 : decode cX8_read 89 = .ok (.invokevirtual 54, 3) := by decide +kernel
theorem dX8_read_92 : decode cX8_read 92 = .ok (.iinc 5 1, 3) := by decide +kernel
theorem dX8_read_95 : decode cX8_read 95 = .ok (.goto (-30), 3) := by decide +kernel
theorem dX8_read_98 : decode cX8_read 98 = .ok (.aload_n 0, 1) := by decide +kernel
theorem dX8_read_99 : decode cX8_read 99 = .ok (.getfield 22, 3) := by decide +kernel
theorem dX8_read_102 : decode cX8_read 102 = .ok (.sipush 3000, 3) := by decide +kernel
theorem dX8_read_105 : decode cX8_read 105 = .ok (.if_icmp .eq 7, 3) := by decide +kernel
theorem dX8_read_108 : decode cX8_read 108 = .ok (.aload_n 0, 1) := by decide +kernel
theorem dX8_read_109 : decode cX8_read 109 = .ok (.invokevirtual 61, 3) := by decide +kernel
theorem dX8_read_112 : decode cX8_read 112 = .ok (.aload_n 0, 1) := by decide +kernel
theorem dX8_read_113 : decode cX8_read 113 = .ok (.getfield 34, 3) := by decide +kernel
theorem dX8_read_116 : decode cX8_read 116 = .ok (.iconst (-1), 1) := by decide +kernel
theorem dX8_read_117 : decode cX8_read 117 = .ok (.if_icmp .eq 5, 3) := by decide +kernel
theorem dX8_read_120 : decode cX8_read 120 = .ok (.aconst_null, 1) := by decide +kernel
theorem dX8_read_121 : decode cX8_read 121 = .ok (.areturn, 1) := by decide +kernel
theorem dX8_read_122 : decode cX8_read 122 = .ok (.aload 4, 2) := by decide +kernel
theorem dX8_read_124 : decode cX8_read 124 = .ok (.aload_n 0, 1) := by decide +kernel
theorem dX8_read_125 : decode cX8_read 125 = .ok (.getfield 25, 3) := by decide +kernel
theorem dX8_read_128 : decode cX8_read 128 = .ok (.aload_n 0, 1) := by decide +kernel
theorem dX8_read_129 : decode cX8_read 129 = .ok (.getfield 28, 3) := by decide +kernel
theorem dX8_read_132 : decode cX8_read 132 = .ok (.invokestatic 64, 3) := by decide +kernel
theorem dX8_read_135 : decode cX8_read 135 = .ok (.putfield 70, 3) := by decide +kernel
theorem dX8_read_138 : decode cX8_read 138 = .ok (.aload 4, 2) := by decide +kernel
theorem dX8_read_140 : decode cX8_read 140 = .ok (.areturn, 1) := by decide +kernel
abbrev mX8_read : zq_M := (cX8_read, RX8, "read", (some (.object "LetterQuay$Text")), 6)
section ZC42
variable {l : Launch} {G : zq_G} {D N : Nat} {c v pl : Nat → Nat} {tk : Nat → Int32} {o : Bool}
def zpC2 (c pl : Nat → Nat) (one : zQ → zQ) : Nat → Nat → zQ → zQ
  | 0, _, q => q
  | f + 1, i, q => if zpt c q 159 = true then zpC2 c pl one f (i + 1) (if (if i = 12 then zpf pl (zpn q) else zpn q).2.2 = 0 then one (if i = 12 then zpf pl (zpn q) else zpn q) else (if i = 12 then zpf pl (zpn q) else zpn q)) else q
theorem zpCs_C2 {fw lw : Nat} : ∀ f i q, zpCs c v pl fw lw o f i q = zpC2 c pl (zpOne c v pl fw lw o) f i q
  | 0, _, _ => rfl
  | f + 1, i, q => by
    unfold zpCs zpC2
    split
    · exact zpCs_C2 f (i + 1) _
    · rfl
/-- the clauses read so far -/
def zCls (c : Nat → Nat) (PC : Nat → Nat → (Nat → Nat × Nat) → Nat → (Nat → Int32) → Prop) (q : zQ) (cs : Nat) (cd : Nat → Nat × Nat) (sz : Nat) (F : Nat → Nat → Int32) : Prop :=
  q.2.2 = 0 → cs ≤ q.1 ∧ q.2.1 ≤ 50 ∧ ∃ (s e : Nat → Nat), s 0 = 0 ∧ (∀ i, i < sz → PC (s i) (e i) cd cs (F i)) ∧ (∀ i, i + 1 < sz → s (i + 1) = e i + 1) ∧ (1 ≤ sz → e (sz - 1) = q.1)
theorem zCls_s {PC : Nat → Nat → (Nat → Nat × Nat) → Nat → (Nat → Int32) → Prop} (hm : ∀ a b cd cd' N N' F, PC a b cd N F → N ≤ N' → (∀ k, k < N → cd' k = cd k) → PC a b cd' N' F) {q q' : zQ} {cs cs' sz : Nat} {cd cd' : Nat → Nat × Nat} {F : Nat → Nat → Int32} {F' : Nat → Int32} (h1 : 1 ≤ sz) (hf : q.2.2 = 0) (h : zCls c PC q cs cd sz F) (hr : zCd (PC (q.1 + 1) q'.1) (zpn q) q' cs cs' cd cd' F') : zCls c PC q' cs' cd' (sz + 1) (fun i => if i = sz then F' else F i) := by
  intro h0
  obtain ⟨a1, a2, s, e, a3, a4, a5, a6⟩ := h hf
  obtain ⟨b1, b2, b3, b4, b5, b6⟩ := hr h0
  refine ⟨b2, b3, fun i => if i = sz then q.1 + 1 else s i, fun i => if i = sz then q'.1 else e i, ?_, fun i hi => ?_, fun i hi => ?_, fun _ => ?_⟩
  · exact (if_neg (by omega)).trans a3
  · by_cases x : i = sz
    · simp only [x, if_true]
      exact b6
    · simp only [if_neg x]
      exact hm _ _ _ _ _ _ _ (a4 i (by omega)) b4 b5
  · by_cases x : i + 1 = sz
    · have x2 : i ≠ sz := by omega
      simp only [if_pos x, if_neg x2]
      have := a6 h1
      rw [show sz - 1 = i by omega] at this
      rw [this]
    · have x2 : i ≠ sz := by omega
      simp only [if_neg x, if_neg x2]
      exact a5 i (by omega)
  · simp only [Nat.add_sub_cancel, if_true]
end ZC42

