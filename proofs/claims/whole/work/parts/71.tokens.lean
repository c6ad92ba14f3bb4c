/-! ===== the class: the reader's tokens ===== -/
/-- which of the class's words the Model's word is -/
def zwm (k : Nat) : Nat := [0, 15, 16, 17, 24, 25, 26, 27, 1, 2, 3, 4, 5, 6, 8, 7, 9, 10, 11, 12, 13, 14, 18, 22, 19, 20, 21, 23].getD k 0
theorem zwm_in {k : Nat} (h1 : 1 ≤ k) (h2 : k ≤ 27) : 1 ≤ zwm k ∧ zwm k ≤ 27 := by
  have : ∀ k : Fin 28, 1 ≤ k.1 → 1 ≤ zwm k.1 ∧ zwm k.1 ≤ 27 := by decide
  exact this ⟨k, by omega⟩ h1
theorem zwm_inj {j k : Nat} (h1 : 1 ≤ j) (h2 : j ≤ 27) (h3 : 1 ≤ k) (h4 : k ≤ 27) (h : zwm j = zwm k) : j = k := by
  have : ∀ j k : Fin 28, 1 ≤ j.1 → 1 ≤ k.1 → zwm j.1 = zwm k.1 → j.1 = k.1 := by decide
  exact this ⟨j, by omega⟩ ⟨k, by omega⟩ h1 h3 h
/-- the class's number of a token -/
def zT1 (c v : Nat) (t : Int32) : Prop := (c = 50 ∧ t = nI (1000 + min v 1001)) ∨ (1 ≤ c ∧ c ≤ 27 ∧ t = nI (256 + zwm c)) ∨ (c = 0 ∧ t = nI 256) ∨ (100 ≤ c ∧ c < 356 ∧ -128 ≤ t.toInt ∧ t.toInt < 256 ∧ (t.toInt = c - 100 ∨ t.toInt = c - 356))
def zTm (N : Nat) (c v pl : Nat → Nat) (tk : Nat → Int32) : Prop := N ≤ 400 ∧ c N = 0 ∧ tk N = nI 3000 ∧ (∀ j, j ≤ N → pl j ≤ 400) ∧ ∀ j, j < N → zT1 (c j) (v j) (tk j)
/-- which numbers the class has for a word, a sign of the Model -/
def ztn2 (k : Nat) : Nat := if k < 100 then 256 + zwm k else k - 100
def zkt (k : Nat) : Prop := (1 ≤ k ∧ k ≤ 27) ∨ (100 ≤ k ∧ k < 228)
theorem ztn2_lt {k : Nat} (h : zkt k) : ztn2 k < 300 := by
  unfold ztn2
  rcases h with h | h
  · have := zwm_in h.1 h.2
    rw [if_pos (by omega)]; omega
  · rw [if_neg (by omega)]; omega
theorem zT1_iff {c v k : Nat} {t : Int32} (h : zT1 c v t) (hk : zkt k) : t = nI (ztn2 k) ↔ c = k := by
  have e1 : ∀ a : Nat, a < 10000 → (nI a = nI (ztn2 k) ↔ a = ztn2 k) := fun a ha => zn_eq (by omega) (by have := ztn2_lt hk; omega)
  have hv : min v 1001 ≤ 1001 := Nat.min_le_right _ _
  unfold ztn2 at *
  rcases h with ⟨rfl, rfl⟩ | ⟨h1, h2, rfl⟩ | ⟨rfl, rfl⟩ | ⟨h1, h2, h3, h4, h5⟩
  · rw [e1 _ (by omega)]
    rcases hk with hk | hk
    · have := zwm_in hk.1 hk.2
      rw [if_pos (by omega)]; omega
    · rw [if_neg (by omega)]; omega
  · have w1 := zwm_in h1 h2
    rw [e1 _ (by omega)]
    rcases hk with hk | hk
    · rw [if_pos (by omega)]
      constructor
      · intro h; exact zwm_inj h1 h2 hk.1 hk.2 (by omega)
      · rintro rfl; rfl
    · rw [if_neg (by omega)]; omega
  · rw [e1 _ (by omega)]
    rcases hk with hk | hk
    · have := zwm_in hk.1 hk.2
      rw [if_pos (by omega)]; omega
    · rw [if_neg (by omega)]; omega
  · rcases hk with hk | hk
    · have w1 := zwm_in hk.1 hk.2
      rw [if_pos (by omega)]
      constructor
      · intro h
        rw [h, nI_toInt (by omega)] at h4
        omega
      · intro h; omega
    · rw [if_neg (by omega)]
      constructor
      · intro h
        rw [h, nI_toInt (by omega)] at h5
        omega
      · rintro rfl
        have : t.toInt = (c - 100 : Nat) := by omega
        rw [← Int32.ofInt_toInt t, this]
        exact zI_n _
theorem zT1_lo {c v : Nat} {t : Int32} (h : zT1 c v t) : t.toInt < 2002 := by
  have hv : min v 1001 ≤ 1001 := Nat.min_le_right _ _
  rcases h with ⟨rfl, rfl⟩ | ⟨h1, h2, rfl⟩ | ⟨rfl, rfl⟩ | ⟨h1, h2, h3, h4, h5⟩
  · rw [nI_toInt (by omega)]; omega
  · have := zwm_in h1 h2
    rw [nI_toInt (by omega)]; omega
  · rw [nI_toInt (by omega)]; omega
  · omega
/-- alike but for where the reader is -/
def zRf (κ' κ : zl_S) : Prop := (∀ o, o ≠ 48 → κ'.1 o = κ.1 o) ∧ κ'.1 48 8 = κ.1 48 8 ∧ (∀ a, a ≠ 51 → κ'.2.1 a = κ.2.1 a) ∧ κ'.2.2 = κ.2.2
theorem zRf_r (κ : zl_S) : zRf κ κ := ⟨fun _ _ => rfl, rfl, fun _ _ => rfl, rfl⟩
theorem zRf_t {κ1 κ2 κ : zl_S} (h : zRf κ1 κ2) (g : zRf κ2 κ) : zRf κ1 κ := ⟨fun o ho => (h.1 o ho).trans (g.1 o ho), h.2.1.trans g.2.1, fun a ha => (h.2.2.1 a ha).trans (g.2.2.1 a ha), h.2.2.2.trans g.2.2.2⟩
theorem zRf_i {κ' κ : zl_S} {k : Nat} {v : Int32} (h : zRf κ' κ) (hk : k ≠ 8) : zRf (zl_si κ' 48 k v) κ := ⟨fun o ho => (zsi2_o _ ho _ _).trans (h.1 o ho), (zsi2_k _ 48 (fun e => hk e.symm) v).trans h.2.1, h.2.2.1, h.2.2.2⟩
theorem zRf_a {κ' κ : zl_S} {i : Nat} {v : Int32} (h : zRf κ' κ) : zRf (zl_sa κ' 51 i v) κ := ⟨h.1, h.2.1, fun a ha => (zla_o _ ha _ _).trans (h.2.2.1 a ha), h.2.2.2⟩
/-- the rows of tokens, of their places; what is read -/
def zRw (κ : zl_S) (N : Nat) (pl : Nat → Nat) (tk : Nat → Int32) (o : Bool) : Prop := (∀ j, j ≤ N → κ.2.1 49 j = tk j ∧ κ.2.1 50 j = nI (pl j)) ∧ κ.1 48 8 = zb o
theorem zRw_f {κ' κ : zl_S} {N : Nat} {pl : Nat → Nat} {tk : Nat → Int32} {o : Bool} (h : zRf κ' κ) (g : zRw κ N pl tk o) : zRw κ' N pl tk o := by
  unfold zRw at *
  rw [h.2.1, h.2.2.1 49 (by decide), h.2.2.1 50 (by decide)]
  exact g
/-- where the reader is: as the Model's q; cs places of code -/
def zPs (κ : zl_S) (tk : Nat → Int32) (q : zQ) (cs : Nat) (cd : Nat → Nat × Nat) : Prop := κ.1 48 5 = nI cs ∧ cs ≤ 800 ∧
  ((q.2.2 = 0 ∧ κ.1 48 2 = nI q.1 ∧ κ.1 48 3 = tk q.1 ∧ κ.1 48 6 = nI q.2.1 ∧ κ.1 48 7 = -1 ∧ ∀ k, k < cs → κ.2.1 51 k = nI (1024 * (cd k).1 + (cd k).2) ∧ (cd k).1 < 14 ∧ (cd k).2 < 1024) ∨
   (q.2.2 ≠ 0 ∧ κ.1 48 3 = nI 3001 ∧ κ.1 48 7 = nI (q.2.2 - 1)))
section ZC18
variable {N : Nat} {c v pl : Nat → Nat} {tk : Nat → Int32} {κ : zl_S} {q : zQ} {cs : Nat} {cd : Nat → Nat × Nat} {o : Bool}
theorem zPs_iff {k : Nat} (hT : zTm N c v pl tk) (hq : q.1 ≤ N) (hk : zkt k) (h : zPs κ tk q cs cd) : κ.1 48 3 = nI (ztn2 k) ↔ zpt c q k = true := by
  have hl := ztn2_lt hk
  unfold zpt
  rw [Bool.and_eq_true, decide_eq_true_eq, decide_eq_true_eq]
  rcases h.2.2 with ⟨a1, a2, a3, a4, a5, a6⟩ | ⟨a1, a2, a3⟩
  · rw [a3]
    by_cases e : q.1 = N
    · rw [e, hT.2.2.1, hT.2.1, zn_eq (by decide) (by omega)]
      unfold zkt at hk
      omega
    · rw [zT1_iff (hT.2.2.2.2 q.1 (by omega)) hk]
      exact ⟨fun h => ⟨a1, h⟩, fun h => h.2⟩
  · rw [a2, zn_eq (by decide) (by omega)]
    omega
end ZC18

