/-! ===== the class: the reader reads a law's clause ===== -/
theorem zl_up {κ : zl_S} {ρ : Nat → zq_E} {k : Nat} {e : zq_E} (hk : 70 ≤ k) : va_up (zl_h κ ρ) k e = zl_h κ (va_up ρ k e) := by
  funext j
  by_cases h : j = k
  · subst h
    rw [va_up_self, zl_hi _ _ (Or.inr hk), va_up_self]
  · rw [va_up_ne _ _ h]
    unfold zl_h
    rw [va_up_ne _ _ h]
/-- a clause's cell -/
def zce (F : Nat → Int32) : zq_E := .inr (1, [.int (F 0), .int (F 1), .int (F 2), .int (F 3), .int (F 4), .int (F 5)])
def zCl (ρ : Nat → zq_E) (cr : Nat) (F : Nat → Int32) : Prop := 70 ≤ cr ∧ ρ cr = zce F
theorem zCl_s {ρ : Nat → zq_E} {cr : Nat} {F F' : Nat → Int32} (h : zCl ρ cr F) : zCl (va_up ρ cr (zce F')) cr F' := ⟨h.1, va_up_self _ _ _⟩
theorem zce_up (ρ : Nat → zq_E) (cr : Nat) (e e' : zq_E) : va_up (va_up ρ cr e) cr e' = va_up ρ cr e' := by
  funext j
  by_cases h : j = cr
  · subst h; rw [va_up_self, va_up_self]
  · rw [va_up_ne _ _ h, va_up_ne _ _ h, va_up_ne _ _ h]
theorem zce_0 {ρ : Nat → zq_E} {cr : Nat} {F : Nat → Int32} (h : zCl ρ cr F) : va_up ρ cr (zce F) = ρ := by
  funext j
  by_cases e : j = cr
  · subst e; rw [va_up_self, h.2]
  · rw [va_up_ne _ _ e]
section ZC29
variable {l : Launch} {G : zq_G} {R : Room} {M : zq_M} {QF : List Frame → Array Value → State → State → Prop} {pc n cells slots : Nat} {lv : List (Nat × Value)} {st : List Value} {κ : zl_S} {ρ : Nat → zq_E}
theorem at_cput {idx k cr : Nat} {F : Nat → Int32} {v : Int32} (hd : decode M.1 pc = .ok (.putfield idx, 3)) (hL : zq_PL M.2.1 M.2.2.1 idx 1 k) (hc : zCl ρ cr F) (hk : k < 6) (kk : zq_At l G R M QF (pc + 3) lv st n (zl_h κ (va_up ρ cr (zce (upd F k v)))) cells slots) : zq_At l G R M QF pc lv (.int v :: .ref cr :: st) n (zl_h κ ρ) cells slots := by
  refine at_put hd hL ((zl_hi κ ρ (Or.inr hc.1)).trans hc.2) (by exact hk) ?_ ?_ ?_
  · intro G
    rcases (show k = 0 ∨ k = 1 ∨ k = 2 ∨ k = 3 ∨ k = 4 ∨ k = 5 by omega) with rfl | rfl | rfl | rfl | rfl | rfl <;> rfl
  · intro G
    rcases (show k = 0 ∨ k = 1 ∨ k = 2 ∨ k = 3 ∨ k = 4 ∨ k = 5 by omega) with rfl | rfl | rfl | rfl | rfl | rfl <;> rfl
  · rw [zl_up hc.1]
    have e : (Sum.inr (1, [Value.int (F 0), Value.int (F 1), Value.int (F 2), Value.int (F 3), Value.int (F 4), Value.int (F 5)].set k (.int v)) : zq_E) = zce (upd F k v) := by
      rcases (show k = 0 ∨ k = 1 ∨ k = 2 ∨ k = 3 ∨ k = 4 ∨ k = 5 by omega) with rfl | rfl | rfl | rfl | rfl | rfl <;> rfl
    rw [e]
    exact kk
end ZC29
theorem dX8_readRule_0 : decode cX8_readRule 0 = .ok (.aload_n 0, 1) := by decide +kernel
theorem dX8_readRule_1 : decode cX8_readRule 1 = .ok (.getfield 22, 3) := by decide +kernel
theorem dX8_readRule_4 : decode cX8_readRule 4 = .ok (.sipush 273, 3) := by decide +kernel
theorem dX8_readRule_7 : decode cX8_readRule 7 = .ok (.if_icmp .ne 16, 3) := by decide +kernel
theorem dX8_readRule_10 : decode cX8_readRule 10 = .ok (.aload_n 1, 1) := by decide +kernel
theorem dX8_readRule_11 : decode cX8_readRule 11 = .ok (.bipush 6, 2) := by decide +kernel
theorem dX8_readRule_13 : decode cX8_readRule 13 = .ok (.putfield 126, 3) := by decide +kernel
theorem dX8_readRule_16 : decode cX8_readRule 16 = .ok (.aload_n 0, 1) := by decide +kernel
theorem dX8_readRule_17 : decode cX8_readRule 17 = .ok (.invokevirtual 58, 3) := by decide +kernel
theorem dX8_readRule_20 : decode cX8_readRule 20 = .ok (.goto 61, 3) := by decide +kernel
theorem dX8_readRule_23 : decode cX8_readRule 23 = .ok (.aload_n 0, 1) := by decide +kernel
theorem dX8_readRule_24 : decode cX8_readRule 24 = .ok (.getfield 22, 3) := by decide +kernel
theorem dX8_readRule_27 : decode cX8_readRule 27 = .ok (.sipush 271, 3) := by decide +kernel
theorem dX8_readRule_30 : decode cX8_readRule 30 = .ok (.if_icmp .eq 13, 3) := by decide +kernel
theorem dX8_readRule_33 : decode cX8_readRule 33 = .ok (.aload_n 0, 1) := by decide +kernel
theorem dX8_readRule_34 : decode cX8_readRule 34 = .ok (.getfield 22, 3) := by decide +kernel
theorem dX8_readRule_37 : decode cX8_readRule 37 = .ok (.sipush 272, 3) := by decide +kernel
theorem dX8_readRule_40 : decode cX8_readRule 40 = .ok (.if_icmp .ne 37, 3) := by decide +kernel
theorem dX8_readRule_43 : decode cX8_readRule 43 = .ok (.aload_n 1, 1) := by decide +kernel
theorem dX8_readRule_44 : decode cX8_readRule 44 = .ok (.aload_n 0, 1) := by decide +kernel
theorem dX8_readRule_45 : decode cX8_readRule 45 = .ok (.getfield 22, 3) := by decide +kernel
theorem dX8_readRule_48 : decode cX8_readRule 48 = .ok (.sipush 271, 3) := by decide +kernel
theorem dX8_readRule_51 : decode cX8_readRule 51 = .ok (.if_icmp .ne 7, 3) := by decide +kernel
theorem dX8_readRule_54 : decode cX8_readRule 54 = .ok (.iconst 4, 1) := by decide +kernel
theorem dX8_readRule_55 : decode cX8_readRule 55 = .ok (.goto 4, 3) := by decide +kernel
theorem dX8_readRule_58 : decode cX8_readRule 58 = .ok (.iconst 5, 1) := by decide +kernel
theorem dX8_readRule_59 : decode cX8_readRule 59 = .ok (.putfield 126, 3) := by decide +kernel
theorem dX8_readRule_62 : decode cX8_readRule 62 = .ok (.aload_n 0, 1) := by decide +kernel
theorem dX8_readRule_63 : decode cX8_readRule 63 = .ok (.invokevirtual 58, 3) := by decide +kernel
theorem dX8_readRule_66 : decode cX8_readRule 66 = .ok (.aload_n 1, 1) := by decide +kernel
theorem dX8_readRule_67 : decode cX8_readRule 67 = .ok (.aload_n 0, 1) := by decide +kernel
theorem dX8_readRule_68 : decode cX8_readRule 68 = .ok (.invokevirtual 129, 3) := by decide +kernel
theorem dX8_readRule_71 : decode cX8_readRule 71 = .ok (.putfield 132, 3) := by decide +kernel
theorem dX8_readRule_74 : decode cX8_readRule 74 = .ok (.goto 7, 3) := by decide +kernel
theorem dX8_readRule_77 : decode cX8_readRule 77 = .ok (.aload_n 0, 1) := by decide +kernel
theorem dX8_readRule_78 : decode cX8_readRule 78 = .ok (.invokevirtual 61, 3) := by decide +kernel
theorem dX8_readRule_81 : decode cX8_readRule 81 = .ok (.return_, 1) := by decide +kernel
abbrev mX8_readRule : zq_M := (cX8_readRule, RX8, "readRule", none, 2)
theorem dX8_readOrder_0 : decode cX8_readOrder 0 = .ok (.aload_n 0, 1) := by decide +kernel
theorem dX8_readOrder_1 : decode cX8_readOrder 1 = .ok (.getfield 22, 3) := by decide +kernel
theorem dX8_readOrder_4 : decode cX8_readOrder 4 = .ok (.sipush 274, 3) := by decide +kernel
theorem dX8_readOrder_7 : decode cX8_readOrder 7 = .ok (.if_icmp .ne 53, 3) := by decide +kernel
theorem dX8_readOrder_10 : decode cX8_readOrder 10 = .ok (.aload_n 1, 1) := by decide +kernel
theorem dX8_readOrder_11 : decode cX8_readOrder 11 = .ok (.iconst 0, 1) := by decide +kernel
theorem dX8_readOrder_12 : decode cX8_readOrder 12 = .ok (.putfield 126, 3) := by decide +kernel
theorem dX8_readOrder_15 : decode cX8_readOrder 15 = .ok (.aload_n 0, 1) := by decide +kernel
theorem dX8_readOrder_16 : decode cX8_readOrder 16 = .ok (.invokevirtual 58, 3) := by decide +kernel
theorem dX8_readOrder_19 : decode cX8_readOrder 19 = .ok (.aload_n 1, 1) := by decide +kernel
theorem dX8_readOrder_20 : decode cX8_readOrder 20 = .ok (.aload_n 0, 1) := by decide +kernel
theorem dX8_readOrder_21 : decode cX8_readOrder 21 = .ok (.invokevirtual 129, 3) := by decide +kernel
theorem dX8_readOrder_24 : decode cX8_readOrder 24 = .ok (.putfield 132, 3) := by decide +kernel
theorem dX8_readOrder_27 : decode cX8_readOrder 27 = .ok (.aload_n 0, 1) := by decide +kernel
theorem dX8_readOrder_28 : decode cX8_readOrder 28 = .ok (.sipush 260, 3) := by decide +kernel
theorem dX8_readOrder_31 : decode cX8_readOrder 31 = .ok (.invokevirtual 135, 3) := by decide +kernel
theorem dX8_readOrder_34 : decode cX8_readOrder 34 = .ok (.aload_n 1, 1) := by decide +kernel
theorem dX8_readOrder_35 : decode cX8_readOrder 35 = .ok (.aload_n 0, 1) := by decide +kernel
theorem dX8_readOrder_36 : decode cX8_readOrder 36 = .ok (.invokevirtual 129, 3) := by decide +kernel
theorem dX8_readOrder_39 : decode cX8_readOrder 39 = .ok (.putfield 138, 3) := by decide +kernel
theorem dX8_readOrder_42 : decode cX8_readOrder 42 = .ok (.aload_n 0, 1) := by decide +kernel
theorem dX8_readOrder_43 : decode cX8_readOrder 43 = .ok (.sipush 278, 3) := by decide +kernel
theorem dX8_readOrder_46 : decode cX8_readOrder 46 = .ok (.invokevirtual 135, 3) := by decide +kernel
theorem dX8_readOrder_49 : decode cX8_readOrder 49 = .ok (.aload_n 1, 1) := by decide +kernel
theorem dX8_readOrder_50 : decode cX8_readOrder 50 = .ok (.aload_n 0, 1) := by decide +kernel
theorem dX8_readOrder_51 : decode cX8_readOrder 51 = .ok (.invokevirtual 129, 3) := by decide +kernel
theorem dX8_readOrder_54 : decode cX8_readOrder 54 = .ok (.putfield 141, 3) := by decide +kernel
theorem dX8_readOrder_57 : decode cX8_readOrder 57 = .ok (.goto 69, 3) := by decide +kernel
theorem dX8_readOrder_60 : decode cX8_readOrder 60 = .ok (.aload_n 0, 1) := by decide +kernel
theorem dX8_readOrder_61 : decode cX8_readOrder 61 = .ok (.getfield 22, 3) := by decide +kernel
theorem dX8_readOrder_64 : decode cX8_readOrder 64 = .ok (.sipush 275, 3) := by decide +kernel
theorem dX8_readOrder_67 : decode cX8_readOrder 67 = .ok (.if_icmp .eq 13, 3) := by decide +kernel
theorem dX8_readOrder_70 : decode cX8_readOrder 70 = .ok (.aload_n 0, 1) := by decide +kernel
theorem dX8_readOrder_71 : decode cX8_readOrder 71 = .ok (.getfield 22, 3) := by decide +kernel
theorem dX8_readOrder_74 : decode cX8_readOrder 74 = .ok (.sipush 276, 3) := by decide +kernel
theorem dX8_readOrder_77 : decode cX8_readOrder 77 = .ok (.if_icmp .ne 37, 3) := by decide +kernel
theorem dX8_readOrder_80 : decode cX8_readOrder 80 = .ok (.aload_n 1, 1) := by decide +kernel
theorem dX8_readOrder_81 : decode cX8_readOrder 81 = .ok (.aload_n 0, 1) := by decide +kernel
theorem dX8_readOrder_82 : decode cX8_readOrder 82 = .ok (.getfield 22, 3) := by decide +kernel
theorem dX8_readOrder_85 : decode cX8_readOrder 85 = .ok (.sipush 275, 3) := by decide +kernel
theorem dX8_readOrder_88 : decode cX8_readOrder 88 = .ok (.if_icmp .ne 7, 3) := by decide +kernel
theorem dX8_readOrder_91 : decode cX8_readOrder 91 = .ok (.iconst 1, 1) := by decide +kernel
theorem dX8_readOrder_92 : decode cX8_readOrder 92 = .ok (.goto 4, 3) := by decide +kernel
theorem dX8_readOrder_95 : decode cX8_readOrder 95 = .ok (.iconst 2, 1) := by decide +kernel
theorem dX8_readOrder_96 : decode cX8_readOrder 96 = .ok (.putfield 126, 3) := by decide +kernel
theorem dX8_readOrder_99 : decode cX8_readOrder 99 = .ok (.aload_n 0, 1) := by decide +kernel
theorem dX8_readOrder_100 : decode cX8_readOrder 100 = .ok (.invokevirtual 58, 3) := by decide +kernel
theorem dX8_readOrder_103 : decode cX8_readOrder 103 = .ok (.aload_n 1, 1) := by decide +kernel
theorem dX8_readOrder_104 : decode cX8_readOrder 104 = .ok (.aload_n 0, 1) := by decide +kernel
theorem dX8_readOrder_105 : decode cX8_readOrder 105 = .ok (.invokevirtual 129, 3) := by decide +kernel
theorem dX8_readOrder_108 : decode cX8_readOrder 108 = .ok (.putfield 132, 3) := by decide +kernel
theorem dX8_readOrder_111 : decode cX8_readOrder 111 = .ok (.goto 15, 3) := by decide +kernel
theorem dX8_readOrder_114 : decode cX8_readOrder 114 = .ok (.aload_n 1, 1) := by decide +kernel
theorem dX8_readOrder_115 : decode cX8_readOrder 115 = .ok (.iconst 3, 1) := by decide +kernel
theorem dX8_readOrder_116 : decode cX8_readOrder 116 = .ok (.putfield 126, 3) := by decide +kernel
theorem dX8_readOrder_119 : decode cX8_readOrder 119 = .ok (.aload_n 0, 1) := by decide +kernel
theorem dX8_readOrder_120 : decode cX8_readOrder 120 = .ok (.sipush 277, 3) := by decide +kernel
theorem dX8_readOrder_123 : decode cX8_readOrder 123 = .ok (.invokevirtual 135, 3) := by decide +kernel
theorem dX8_readOrder_126 : decode cX8_readOrder 126 = .ok (.aload_n 0, 1) := by decide +kernel
theorem dX8_readOrder_127 : decode cX8_readOrder 127 = .ok (.getfield 22, 3) := by decide +kernel
theorem dX8_readOrder_130 : decode cX8_readOrder 130 = .ok (.sipush 279, 3) := by decide +kernel
theorem dX8_readOrder_133 : decode cX8_readOrder 133 = .ok (.if_icmp .ne 18, 3) := by decide +kernel
theorem dX8_readOrder_136 : decode cX8_readOrder 136 = .ok (.aload_n 0, 1) := by decide +kernel
theorem dX8_readOrder_137 : decode cX8_readOrder 137 = .ok (.invokevirtual 58, 3) := by decide +kernel
theorem dX8_readOrder_140 : decode cX8_readOrder 140 = .ok (.aload_n 1, 1) := by decide +kernel
theorem dX8_readOrder_141 : decode cX8_readOrder 141 = .ok (.aload_n 0, 1) := by decide +kernel
theorem dX8_readOrder_142 : decode cX8_readOrder 142 = .ok (.iconst 1, 1) := by decide +kernel
theorem dX8_readOrder_143 : decode cX8_readOrder 143 = .ok (.bipush 20, 2) := by decide +kernel
theorem dX8_readOrder_145 : decode cX8_readOrder 145 = .ok (.invokevirtual 144, 3) := by decide +kernel
theorem dX8_readOrder_148 : decode cX8_readOrder 148 = .ok (.putfield 147, 3) := by decide +kernel
theorem dX8_readOrder_151 : decode cX8_readOrder 151 = .ok (.return_, 1) := by decide +kernel
abbrev mX8_readOrder : zq_M := (cX8_readOrder, RX8, "readOrder", none, 2)
theorem dX8_readClause_0 : decode cX8_readClause 0 = .ok (.aload_n 1, 1) := by decide +kernel
theorem dX8_readClause_1 : decode cX8_readClause 1 = .ok (.getfield 97, 3) := by decide +kernel
theorem dX8_readClause_4 : decode cX8_readClause 4 = .ok (.bipush 12, 2) := by decide +kernel
theorem dX8_readClause_6 : decode cX8_readClause 6 = .ok (.if_icmp .lt 8, 3) := by decide +kernel
theorem dX8_readClause_9 : decode cX8_readClause 9 = .ok (.aload_n 0, 1) := by decide +kernel
theorem dX8_readClause_10 : decode cX8_readClause 10 = .ok (.invokevirtual 61, 3) := by decide +kernel
theorem dX8_readClause_13 : decode cX8_readClause 13 = .ok (.return_, 1) := by decide +kernel
theorem dX8_readClause_14 : decode cX8_readClause 14 = .ok (.aload_n 1, 1) := by decide +kernel
theorem dX8_readClause_15 : decode cX8_readClause 15 = .ok (.invokevirtual 100, 3) := by decide +kernel
theorem dX8_readClause_18 : decode cX8_readClause 18 = .ok (.astore_n 2, 1) := by decide +kernel
theorem dX8_readClause_19 : decode cX8_readClause 19 = .ok (.aload_n 0, 1) := by decide +kernel
theorem dX8_readClause_20 : decode cX8_readClause 20 = .ok (.getfield 37, 3) := by decide +kernel
theorem dX8_readClause_23 : decode cX8_readClause 23 = .ok (.ifCond .eq 11, 3) := by decide +kernel
theorem dX8_readClause_26 : decode cX8_readClause 26 = .ok (.aload_n 0, 1) := by decide +kernel
theorem dX8_readClause_27 : decode cX8_readClause 27 = .ok (.aload_n 2, 1) := by decide +kernel
theorem dX8_readClause_28 : decode cX8_readClause 28 = .ok (.invokevirtual 104, 3) := by decide +kernel
theorem dX8_readClause_31 : decode cX8_readClause 31 = .ok (.goto 8, 3) := by decide +kernel
theorem dX8_readClause_34 : decode cX8_readClause 34 = .ok (.aload_n 0, 1) := by decide +kernel
theorem dX8_readClause_35 : decode cX8_readClause 35 = .ok (.aload_n 2, 1) := by decide +kernel
theorem dX8_readClause_36 : decode cX8_readClause 36 = .ok (.invokevirtual 108, 3) := by decide +kernel
theorem dX8_readClause_39 : decode cX8_readClause 39 = .ok (.aload_n 0, 1) := by decide +kernel
theorem dX8_readClause_40 : decode cX8_readClause 40 = .ok (.getfield 22, 3) := by decide +kernel
theorem dX8_readClause_43 : decode cX8_readClause 43 = .ok (.sipush 280, 3) := by decide +kernel
theorem dX8_readClause_46 : decode cX8_readClause 46 = .ok (.if_icmp .ne 26, 3) := by decide +kernel
theorem dX8_readClause_49 : decode cX8_readClause 49 = .ok (.aload_n 0, 1) := by decide +kernel
theorem dX8_readClause_50 : decode cX8_readClause 50 = .ok (.invokevirtual 58, 3) := by decide +kernel
theorem dX8_readClause_53 : decode cX8_readClause 53 = .ok (.aload_n 2, 1) := by decide +kernel
theorem dX8_readClause_54 : decode cX8_readClause 54 = .ok (.aload_n 0, 1) := by decide +kernel
theorem dX8_readClause_55 : decode cX8_readClause 55 = .ok (.getfield 28, 3) := by decide +kernel
theorem dX8_readClause_58 : decode cX8_readClause 58 = .ok (.putfield 111, 3) := by decide +kernel
theorem dX8_readClause_61 : decode cX8_readClause 61 = .ok (.aload_n 0, 1) := by decide +kernel
theorem dX8_readClause_62 : decode cX8_readClause 62 = .ok (.iconst 0, 1) := by decide +kernel
theorem dX8_readClause_63 : decode cX8_readClause 63 = .ok (.invokevirtual 116, 3) := by decide +kernel
theorem dX8_readClause_66 : decode cX8_readClause 66 = .ok (.aload_n 0, 1) := by decide +kernel
theorem dX8_readClause_67 : decode cX8_readClause 67 = .ok (.iconst 0, 1) := by decide +kernel
theorem dX8_readClause_68 : decode cX8_readClause 68 = .ok (.iconst 0, 1) := by decide +kernel
theorem dX8_readClause_69 : decode cX8_readClause 69 = .ok (.invokevirtual 122, 3) := by decide +kernel
theorem dX8_readClause_72 : decode cX8_readClause 72 = .ok (.return_, 1) := by decide +kernel
abbrev mX8_readClause : zq_M := (cX8_readClause, RX8, "readClause", none, 3)
section ZC30
variable {l : Launch} {G : zq_G} {D n : Nat} {ρ f : Nat → zq_E} {post : Option Value → Nat → (Nat → zq_E) → Prop}
variable {N : Nat} {c v pl : Nat → Nat} {tk : Nat → Int32} {κ : zl_S} {q : zQ} {cs : Nat} {cd : Nat → Nat × Nat} {o : Bool}
def zqRu (c v pl : Nat → Nat) (q : zQ) : zQ := if zpt c q 1 = true then zpS c v pl 8 15 false 8 (zpn q) else if zpt c q 2 = true then zpS c v pl 8 15 false 8 (zpn q) else zpmu c pl q 3
/-- a rule's head and sum, as they are read -/
def zRu (c v : Nat → Nat) (q q' : zQ) (cs cs' : Nat) (cd cd' : Nat → Nat × Nat) (F' : Nat → Int32) : Prop :=
  q'.2.2 = 0 → q.2.2 = 0 ∧ cs' ≤ q'.1 ∧ q'.2.1 ≤ 50 ∧ cs ≤ cs' ∧ (∀ k, k < cs → cd' k = cd k) ∧
    ((c q.1 = 3 ∧ F' 0 = nI 6 ∧ q'.1 = q.1 + 1) ∨ ((c q.1 = 1 ∨ c q.1 = 2) ∧ F' 0 = nI (c q.1 + 3) ∧ ∃ e, zSpS c v false 9 e (q.1 + 1) q'.1 ∧ zHas false cd' cs' (F' 2) e))
theorem zc_readRule {cr : Nat} {F : Nat → Int32} (hD : 32 ≤ D) (hT : zTm N c v pl tk) (hR : zRw κ N pl tk false) (hq : zqk N q) (hs : zPs κ tk q cs cd) (hb : q.2.2 = 0 → cs ≤ q.1 ∧ q.2.1 ≤ 50) (hC : zCl ρ cr F)
    (hp : ∀ κ' cs' cd' F', zRf κ' κ → zPs κ' tk (zqRu c v pl q) cs' cd' → zRu c v q (zqRu c v pl q) cs cs' cd cd' F' → F' 5 = F 5 → post none n (zl_h κ' (va_up ρ cr (zce F')))) : zq_Runs l G D 0 0 yX8_readRule [.ref 48, .ref cr] n (zl_h κ ρ) post := by
  have w1 : κ.1 48 3 = nI 271 ↔ zpt c q 1 = true := zPs_iff (k := 1) hT hq.1 (Or.inl ⟨by decide, by decide⟩) hs
  have w2 : κ.1 48 3 = nI 272 ↔ zpt c q 2 = true := zPs_iff (k := 2) hT hq.1 (Or.inl ⟨by decide, by decide⟩) hs
  have w3 : κ.1 48 3 = nI 273 ↔ zpt c q 3 = true := zPs_iff (k := 3) hT hq.1 (Or.inl ⟨by decide, by decide⟩) hs
  have sum : ∀ t, (t = 1 ∨ t = 2) → zpt c q t = true → zqRu c v pl q = zpS c v pl 8 15 false 8 (zpn q) → zq_At l G (zq_rm D 0 0) mX8_readRule (zq_QF G post 0 0) 62 [(0, .ref 48), (1, .ref cr)] [] n (zl_h κ (va_up ρ cr (zce (upd F 0 (nI (t + 3)))))) 0 0 := by
    intro t ht hz he
    obtain ⟨z1, z2, z3⟩ := zpt_c hT (zqk_w hq) (by omega) hz
    rw [he] at hp
    have hC1 := zCl_s (F' := upd F 0 (nI (t + 3))) hC
    have hbb := hb z1
    refine at_aload_n dX8_readRule_62 rfl ?_
    refine at_callV0 (d := D - 1) dX8_readRule_63 mv_X8_58 (zl_o rfl) (Nat.le_of_ble_eq_true rfl) (zq_r0 (by omega) (by omega) (by omega)) ?_
    refine zc_next hT hR (zqk_w hq) hs (fun _ => z2) (fun κ1 g1 g2 => ?_)
    rw [if_pos z1] at g2
    refine at_aload_n dX8_readRule_66 rfl ?_
    refine at_aload_n dX8_readRule_67 rfl ?_
    refine at_callV0 (d := D - 1) dX8_readRule_68 mv_X8_129 (zl_o rfl) (Nat.le_of_ble_eq_true rfl) (zq_r0 (by omega) (by omega) (by omega)) ?_
    refine zc_wholeSum (by omega) hT (zRw_f g1 hR) (zqk_nx hq z2) g2 (fun _ => ⟨Nat.succ_le_succ hbb.1, hbb.2⟩) (fun κ2 cs2 cd2 j1 j2 j3 => ?_)
    refine at_cput dX8_readRule_71 (pl_X8_132 _) hC1 (by decide) ?_
    rw [zce_up]
    refine at_goto (tgt := 81) dX8_readRule_74 (by decide) ?_
    refine at_vret dX8_readRule_81 rfl (by omega) (by omega) ?_
    refine hp κ2 cs2 cd2 _ (zRf_t j1 g1) j2 (fun h0 => ?_) rfl
    obtain ⟨r1, r2, r3, r4, r5, e, r6, r7⟩ := j3 h0
    have r2 : cs2 + (q.1 + 1) ≤ cs + 1 + (zpS c v pl 8 15 false 8 (zpn q)).1 := r2
    exact ⟨z1, by omega, r3, r4, r5, Or.inr ⟨by rw [z3]; exact ht, by rw [z3]; rfl, e, r6, r7⟩⟩
  refine zq_enter (cc := cX8_readRule) (nL := 2) (ret := none) cw_X8_readRule (by decide) rfl (Nat.le_of_ble_eq_true rfl) ?_
  refine at_aload_n dX8_readRule_0 rfl ?_
  refine at_get dX8_readRule_1 fl_X8_22 (zl_o rfl) rfl ?_
  refine at_sipush dX8_readRule_4 (v := nI 273) (by decide) ?_
  refine at_icmp_ne (tgt := 23) dX8_readRule_7 (by decide) (fun c7 => ?_) (fun c7 => ?_)
  · refine at_aload_n dX8_readRule_23 rfl ?_
    refine at_get dX8_readRule_24 fl_X8_22 (zl_o rfl) rfl ?_
    refine at_sipush dX8_readRule_27 (v := nI 271) (by decide) ?_
    refine at_icmp_eq (tgt := 43) dX8_readRule_30 (by decide) (fun c30 => ?_) (fun c30 => ?_)
    · refine at_aload_n dX8_readRule_43 rfl ?_
      refine at_aload_n dX8_readRule_44 rfl ?_
      refine at_get dX8_readRule_45 fl_X8_22 (zl_o rfl) rfl ?_
      refine at_sipush dX8_readRule_48 (v := nI 271) (by decide) ?_
      refine at_icmp_ne (tgt := 58) dX8_readRule_51 (by decide) (fun c51 => ?_) (fun c51 => ?_)
      · exact absurd c30 c51
      · refine at_iconst dX8_readRule_54 (v := nI 4) (by decide) ?_
        refine at_goto (tgt := 59) dX8_readRule_55 (by decide) ?_
        refine at_cput dX8_readRule_59 (pl_X8_126 _) hC (by decide) ?_
        exact sum 1 (Or.inl rfl) (w1.mp c30) (if_pos (w1.mp c30))
    · refine at_aload_n dX8_readRule_33 rfl ?_
      refine at_get dX8_readRule_34 fl_X8_22 (zl_o rfl) rfl ?_
      refine at_sipush dX8_readRule_37 (v := nI 272) (by decide) ?_
      refine at_icmp_ne (tgt := 77) dX8_readRule_40 (by decide) (fun c40 => ?_) (fun c40 => ?_)
      · refine at_aload_n dX8_readRule_77 rfl ?_
        refine at_callV0 (d := D - 1) dX8_readRule_78 mv_X8_61 (zl_o rfl) (Nat.le_of_ble_eq_true rfl) (zq_r0 (by omega) (by omega) (by omega)) ?_
        refine zc_fail hT hR (zqk_w hq) hs (fun κ1 g1 g2 => ?_)
        have he : zqRu c v pl q = zpf pl q := (by unfold zqRu zpmu; rw [if_neg (fun h => c30 (w1.mpr h)), if_neg (fun h => c40 (w2.mpr h)), if_neg (fun h => c7 (w3.mpr h))])
        rw [he] at hp
        have hp := hp κ1 cs cd F g1 g2 (fun h0 => (zpf_bad h0).elim) rfl
        rw [zce_0 hC] at hp
        refine at_vret dX8_readRule_81 rfl (by omega) (by omega) ?_
        exact hp
      · refine at_aload_n dX8_readRule_43 rfl ?_
        refine at_aload_n dX8_readRule_44 rfl ?_
        refine at_get dX8_readRule_45 fl_X8_22 (zl_o rfl) rfl ?_
        refine at_sipush dX8_readRule_48 (v := nI 271) (by decide) ?_
        refine at_icmp_ne (tgt := 58) dX8_readRule_51 (by decide) (fun c51 => ?_) (fun c51 => ?_)
        · refine at_iconst dX8_readRule_58 (v := nI 5) (by decide) ?_
          refine at_cput dX8_readRule_59 (pl_X8_126 _) hC (by decide) ?_
          exact sum 2 (Or.inr rfl) (w2.mp c40) ((if_neg (fun h => c30 (w1.mpr h))).trans (if_pos (w2.mp c40)))
        · exact absurd c51 c30
  · have hz := w3.mp c7
    obtain ⟨z1, z2, z3⟩ := zpt_c hT (zqk_w hq) (by decide) hz
    have n1 : ¬ zpt c q 1 = true := (fun h => by have := (zpt_c hT (zqk_w hq) (by decide) h).2.2; omega)
    have n2 : ¬ zpt c q 2 = true := (fun h => by have := (zpt_c hT (zqk_w hq) (by decide) h).2.2; omega)
    have he : zqRu c v pl q = zpn q := (by unfold zqRu zpmu; rw [if_neg n1, if_neg n2, if_pos hz])
    rw [he] at hp
    have hbb := hb z1
    refine at_aload_n dX8_readRule_10 rfl ?_
    refine at_bipush dX8_readRule_11 (v := nI 6) (by decide) ?_
    refine at_cput dX8_readRule_13 (pl_X8_126 _) hC (by decide) ?_
    refine at_aload_n dX8_readRule_16 rfl ?_
    refine at_callV0 (d := D - 1) dX8_readRule_17 mv_X8_58 (zl_o rfl) (Nat.le_of_ble_eq_true rfl) (zq_r0 (by omega) (by omega) (by omega)) ?_
    refine zc_next hT hR (zqk_w hq) hs (fun _ => z2) (fun κ1 g1 g2 => ?_)
    rw [if_pos z1] at g2
    have hp := hp κ1 cs cd (upd F 0 (nI 6)) g1 g2 (fun _ => ⟨z1, Nat.le_succ_of_le hbb.1, hbb.2, Nat.le_refl _, fun _ _ => rfl, Or.inl ⟨z3, rfl, rfl⟩⟩) rfl
    refine at_goto (tgt := 81) dX8_readRule_20 (by decide) ?_
    refine at_vret dX8_readRule_81 rfl (by omega) (by omega) ?_
    exact hp
end ZC30

