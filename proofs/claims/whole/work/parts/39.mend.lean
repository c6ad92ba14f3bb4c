/-! ===== the Model: the cheapest names ===== -/
/-- the least that those from a place on cost, none of them ahead of a rank: c what they cost, R the least of those behind; by how many ranks are left -/
def zrsI (c R : Nat → Nat) : Nat → Nat
  | 0 => 1000000
  | i + 1 => min (zrsI c R i) (min 1000000 (c (779 - i) + R (i + 1)))
def zrsO (c : Nat → Nat → Nat) (m : Nat) : Nat → Nat → Nat
  | 0 => fun _ => 0
  | k + 1 => zrsI (c (m - (k + 1))) (zrsO c m k)
def zrs (c : Nat → Nat → Nat) (m j r : Nat) : Nat := zrsO c m (m - j) (780 - r)
def zwn (c : Nat → Nat → Nat) (m j r : Nat) : Nat := min 1000000 (c j r + zrs c m (j + 1) r)
theorem zrs_m (c : Nat → Nat → Nat) (m r : Nat) : zrs c m m r = 0 := by unfold zrs; rw [Nat.sub_self]; rfl
theorem zrs_e (c : Nat → Nat → Nat) {m j : Nat} (h : j < m) : zrs c m j 780 = 1000000 := by
  unfold zrs
  rw [show m - j = (m - (j + 1)) + 1 by omega]
  rfl
theorem zrsO_s (c : Nat → Nat → Nat) (m k : Nat) : zrsO c m (k + 1) = zrsI (c (m - (k + 1))) (zrsO c m k) := rfl
theorem zrsI_s (c R : Nat → Nat) (i : Nat) : zrsI c R (i + 1) = min (zrsI c R i) (min 1000000 (c (779 - i) + R (i + 1))) := rfl
theorem zrs_s (c : Nat → Nat → Nat) {m j r : Nat} (h : j < m) (hr : r < 780) : zrs c m j r = min (zrs c m j (r + 1)) (zwn c m j r) := by
  unfold zwn zrs
  rw [show m - j = (m - (j + 1)) + 1 by omega, show 780 - r = (780 - (r + 1)) + 1 by omega, zrsO_s, zrsI_s, show m - ((m - (j + 1)) + 1) = j by omega, show 779 - (780 - (r + 1)) = r by omega]
theorem zrsI_le (c R : Nat → Nat) : ∀ i, zrsI c R i ≤ 1000000
  | 0 => Nat.le_refl _
  | i + 1 => Nat.le_trans (Nat.min_le_left _ _) (zrsI_le c R i)
theorem zrs_le (c : Nat → Nat → Nat) (m j r : Nat) : zrs c m j r ≤ 1000000 := by
  unfold zrs
  cases m - j with
  | zero => exact Nat.zero_le _
  | succ k => exact zrsI_le _ _ _
theorem zwn_le (c : Nat → Nat → Nat) (m j r : Nat) : zwn c m j r ≤ 1000000 := Nat.min_le_left _ _
/-- the first from i on at which both are the same -/
def zff (W R : Nat → Nat) : Nat → Nat → Nat
  | 0, i => i
  | f + 1, i => if W i = R i then i else zff W R f (i + 1)
/-- the ranks of the names of the first k places -/
def zfi (c : Nat → Nat → Nat) (m : Nat) : Nat → Nat
  | 0 => 0
  | k + 1 => zff (zwn c m k) (zrs c m k) (780 - zfi c m k) (zfi c m k)
theorem zrs_nx {c : Nat → Nat → Nat} {m j i : Nat} (hj : j < m) (hi : i < 780) (h : zrs c m j i < 1000000) (hn : zwn c m j i ≠ zrs c m j i) : i + 1 < 780 ∧ zrs c m j (i + 1) < 1000000 := by
  have e := zrs_s c hj hi
  have h2 : zrs c m j (i + 1) < 1000000 := by omega
  refine ⟨?_, h2⟩
  by_cases e2 : i + 1 = 780
  · rw [e2, zrs_e c hj] at h2; omega
  · omega
theorem zff_ok {c : Nat → Nat → Nat} {m j : Nat} (hj : j < m) : ∀ f i, i + f = 780 → i < 780 → zrs c m j i < 1000000 → zff (zwn c m j) (zrs c m j) f i < 780 ∧ zrs c m (j + 1) (zff (zwn c m j) (zrs c m j) f i) < 1000000
  | 0, i, h, h2, _ => by omega
  | f + 1, i, h, h2, h3 => by
    unfold zff
    split
    · next e =>
      refine ⟨h2, ?_⟩
      unfold zwn at e
      omega
    · next e =>
      have g := zrs_nx hj h2 h3 e
      exact zff_ok hj f (i + 1) (by omega) g.1 g.2
theorem zfi_ok {c : Nat → Nat → Nat} {m : Nat} (h0 : zrs c m 0 0 < 1000000) : ∀ k, k ≤ m → zfi c m k < 780 ∧ zrs c m k (zfi c m k) < 1000000
  | 0, _ => ⟨show 0 < 780 by decide, h0⟩
  | k + 1, hk => by
    have g := zfi_ok h0 k (by omega)
    exact zff_ok (by omega) (780 - zfi c m k) (zfi c m k) (by omega) g.1 g.2
theorem zless {a b : Nat} (ha : a < 2147483648) (hb : b < 2147483648) : (if nI a < nI b then nI a else nI b) = nI (min a b) := by
  by_cases h : a < b
  · rw [if_pos ((zn_lt ha hb).mpr h), Nat.min_eq_left (by omega)]
  · rw [if_neg (fun q => h ((zn_lt ha hb).mp q)), Nat.min_eq_right (by omega)]
/-- alike but for the tables of mending -/
def zMe (σ τ : zm_S) : Prop := (∀ k, (k < 23 ∨ 26 < k) → k ≠ 35 → σ.1 k = τ.1 k) ∧ (∀ a, a ≠ 83 → a ≠ 86 → a ≠ 87 → a ≠ 88 → a ≠ 89 → σ.2.1 a = τ.2.1 a) ∧ σ.2.2 = τ.2.2
theorem zMe_r (σ : zm_S) : zMe σ σ := ⟨fun _ _ _ => rfl, fun _ _ _ _ _ _ => rfl, rfl⟩
theorem zMe_t {σ τ υ : zm_S} (h : zMe σ τ) (g : zMe τ υ) : zMe σ υ := ⟨fun k h1 h2 => (h.1 k h1 h2).trans (g.1 k h1 h2), fun k h1 h2 h3 h4 h5 => (h.2.1 k h1 h2 h3 h4 h5).trans (g.2.1 k h1 h2 h3 h4 h5), h.2.2.trans g.2.2⟩
theorem zMe_c {σ τ : zm_S} (h : zTc σ τ) : zMe σ τ := ⟨fun k hk _ => h.1 k hk, fun a h1 h2 h3 h4 h5 => h.2.1 a h1 h5 h3, h.2.2⟩
theorem zMe_a {σ τ : zm_S} {g : Nat → Int32} (h : zMe σ τ) : zMe (zsA σ 88 g) τ := ⟨h.1, fun a h1 h2 h3 h4 h5 => by rw [zsA_o _ h4]; exact h.2.1 a h1 h2 h3 h4 h5, h.2.2⟩
theorem zMe_n {σ : zm_S} {g : Nat → Int32} {s : Nat} : zMe (zon σ g s) σ := ⟨fun k _ hk => zsi_o _ hk _, fun a h1 h2 h3 h4 h5 => zsA_o _ h2 _, rfl⟩
theorem zMe_Es {σ τ : zm_S} (h : zMe σ τ) : zEs σ τ := ⟨fun k hk => h.1 k (by
    rcases (show k < 23 ∨ 26 < k ∨ (k = 23 ∨ k = 24 ∨ k = 25 ∨ k = 26) by omega) with h | h | (rfl | rfl | rfl | rfl)
    · exact Or.inl h
    · exact Or.inr h
    all_goals cases hk) (by rintro rfl; cases hk), fun a ha => h.2.1 a (by rintro rfl; cases ha) (by rintro rfl; cases ha) (by rintro rfl; cases ha) (by rintro rfl; cases ha) (by rintro rfl; cases ha)⟩
/-- what it costs that the name at place j becomes the r-th name -/
def zmc (K : Nat → Int32) (m : Nat) (x w : Nat → Nat) (Lo : Option (List zLC)) (al : Nat → Nat) (j r : Nat) : Nat := zcst (zbar K m (w j) (x (w j)) Lo) (x (w j)) (znm al r) (zlcv K m (w j) (x (w j)) Lo)
theorem zcst_le {held : Bool} {x y : Nat} {lc : Nat → Nat → Nat} (h : ∀ k y, lc k y ≤ 99) : zcst held x y lc ≤ 1000000 := by
  unfold zcst
  split
  · have := zlsum_le h y (zlen x)
    have := zlen_le x
    omega
  · exact Nat.le_refl _
theorem zmc_le (K : Nat → Int32) (m : Nat) (x w : Nat → Nat) (Lo : Option (List zLC)) (al : Nat → Nat) (j r : Nat) : zmc K m x w Lo al j r ≤ 1000000 := zcst_le (zlcv_le _ _ _ _ _)
theorem dX12_restOf_0 : decode cX12_restOf 0 = .ok (.aload_n 0, 1) := by decide +kernel
theorem dX12_restOf_1 : decode cX12_restOf 1 = .ok (.getfield 95, 3) := by decide +kernel
theorem dX12_restOf_4 : decode cX12_restOf 4 = .ok (.sipush 781, 3) := by decide +kernel
theorem dX12_restOf_7 : decode cX12_restOf 7 = .ok (.iload_n 1, 1) := by decide +kernel
theorem dX12_restOf_8 : decode cX12_restOf 8 = .ok (.imul, 1) := by decide +kernel
theorem dX12_restOf_9 : decode cX12_restOf 9 = .ok (.iload_n 2, 1) := by decide +kernel
theorem dX12_restOf_10 : decode cX12_restOf 10 = .ok (.iadd, 1) := by decide +kernel
theorem dX12_restOf_11 : decode cX12_restOf 11 = .ok (.iaload, 1) := by decide +kernel
theorem dX12_restOf_12 : decode cX12_restOf 12 = .ok (.ireturn, 1) := by decide +kernel
abbrev mX12_restOf : zq_M := (cX12_restOf, RX12, "restOf", (some .int), 3)
theorem dX12_withName_0 : decode cX12_withName 0 = .ok (.ldc 196, 2) := by decide +kernel
theorem dX12_withName_2 : decode cX12_withName 2 = .ok (.aload_n 0, 1) := by decide +kernel
theorem dX12_withName_3 : decode cX12_withName 3 = .ok (.getfield 92, 3) := by decide +kernel
theorem dX12_withName_6 : decode cX12_withName 6 = .ok (.sipush 780, 3) := by decide +kernel
theorem dX12_withName_9 : decode cX12_withName 9 = .ok (.iload_n 1, 1) := by decide +kernel
theorem dX12_withName_10 : decode cX12_withName 10 = .ok (.imul, 1) := by decide +kernel
theorem dX12_withName_11 : decode cX12_withName 11 = .ok (.iload_n 2, 1) := by decide +kernel
theorem dX12_withName_12 : decode cX12_withName 12 = .ok (.iadd, 1) := by decide +kernel
theorem dX12_withName_13 : decode cX12_withName 13 = .ok (.iaload, 1) := by decide +kernel
theorem dX12_withName_14 : decode cX12_withName 14 = .ok (.aload_n 0, 1) := by decide +kernel
theorem dX12_withName_15 : decode cX12_withName 15 = .ok (.iload_n 1, 1) := by decide +kernel
theorem dX12_withName_16 : decode cX12_withName 16 = .ok (.iconst 1, 1) := by decide +kernel
theorem dX12_withName_17 : decode cX12_withName 17 = .ok (.iadd, 1) := by decide +kernel
theorem dX12_withName_18 : decode cX12_withName 18 = .ok (.iload_n 2, 1) := by decide +kernel
theorem dX12_withName_19 : decode cX12_withName 19 = .ok (.invokevirtual 413, 3) := by decide +kernel
theorem dX12_withName_22 : decode cX12_withName 22 = .ok (.iadd, 1) := by decide +kernel
theorem dX12_withName_23 : decode cX12_withName 23 = .ok (.invokestatic 362, 3) := by decide +kernel
theorem dX12_withName_26 : decode cX12_withName 26 = .ok (.ireturn, 1) := by decide +kernel
abbrev mX12_withName : zq_M := (cX12_withName, RX12, "withName", (some .int), 3)
theorem dX12_laysMended_0 : decode cX12_laysMended 0 = .ok (.aload_n 0, 1) := by decide +kernel
theorem dX12_laysMended_1 : decode cX12_laysMended 1 = .ok (.iconst 0, 1) := by decide +kernel
theorem dX12_laysMended_2 : decode cX12_laysMended 2 = .ok (.putfield 404, 3) := by decide +kernel
theorem dX12_laysMended_5 : decode cX12_laysMended 5 = .ok (.aload_n 0, 1) := by decide +kernel
theorem dX12_laysMended_6 : decode cX12_laysMended 6 = .ok (.iconst 0, 1) := by decide +kernel
theorem dX12_laysMended_7 : decode cX12_laysMended 7 = .ok (.iconst 0, 1) := by decide +kernel
theorem dX12_laysMended_8 : decode cX12_laysMended 8 = .ok (.invokevirtual 407, 3) := by decide +kernel
theorem dX12_laysMended_11 : decode cX12_laysMended 11 = .ok (.iconst 0, 1) := by decide +kernel
theorem dX12_laysMended_12 : decode cX12_laysMended 12 = .ok (.istore_n 1, 1) := by decide +kernel
theorem dX12_laysMended_13 : decode cX12_laysMended 13 = .ok (.iload_n 1, 1) := by decide +kernel
theorem dX12_laysMended_14 : decode cX12_laysMended 14 = .ok (.sipush 780, 3) := by decide +kernel
theorem dX12_laysMended_17 : decode cX12_laysMended 17 = .ok (.if_icmp .gt 25, 3) := by decide +kernel
theorem dX12_laysMended_20 : decode cX12_laysMended 20 = .ok (.aload_n 0, 1) := by decide +kernel
theorem dX12_laysMended_21 : decode cX12_laysMended 21 = .ok (.getfield 95, 3) := by decide +kernel
theorem dX12_laysMended_24 : decode cX12_laysMended 24 = .ok (.sipush 781, 3) := by decide +kernel
theorem dX12_laysMended_27 : decode cX12_laysMended 27 = .ok (.aload_n 0, 1) := by decide +kernel
theorem dX12_laysMended_28 : decode cX12_laysMended 28 = .ok (.invokevirtual 141, 3) := by decide +kernel
theorem dX12_laysMended_31 : decode cX12_laysMended 31 = .ok (.imul, 1) := by decide +kernel
theorem dX12_laysMended_32 : decode cX12_laysMended 32 = .ok (.iload_n 1, 1) := by decide +kernel
theorem dX12_laysMended_33 : decode cX12_laysMended 33 = .ok (.iadd, 1) := by decide +kernel
theorem dX12_laysMended_34 : decode cX12_laysMended 34 = .ok (.iconst 0, 1) := by decide +kernel
theorem dX12_laysMended_35 : decode cX12_laysMended 35 = .ok (.iastore, 1) := by decide +kernel
theorem dX12_laysMended_36 : decode cX12_laysMended 36 = .ok (.iinc 1 1, 3) := by decide +kernel
theorem dX12_laysMended_39 : decode cX12_laysMended 39 = .ok (.goto (-26), 3) := by decide +kernel
theorem dX12_laysMended_42 : decode cX12_laysMended 42 = .ok (.aload_n 0, 1) := by decide +kernel
theorem dX12_laysMended_43 : decode cX12_laysMended 43 = .ok (.invokevirtual 141, 3) := by decide +kernel
theorem dX12_laysMended_46 : decode cX12_laysMended 46 = .ok (.iconst 1, 1) := by decide +kernel
theorem dX12_laysMended_47 : decode cX12_laysMended 47 = .ok (.isub, 1) := by decide +kernel
theorem dX12_laysMended_48 : decode cX12_laysMended 48 = .ok (.istore_n 1, 1) := by decide +kernel
theorem dX12_laysMended_49 : decode cX12_laysMended 49 = .ok (.iload_n 1, 1) := by decide +kernel
theorem dX12_laysMended_50 : decode cX12_laysMended 50 = .ok (.ifCond .lt 73, 3) := by decide +kernel
theorem dX12_laysMended_53 : decode cX12_laysMended 53 = .ok (.aload_n 0, 1) := by decide +kernel
theorem dX12_laysMended_54 : decode cX12_laysMended 54 = .ok (.iload_n 1, 1) := by decide +kernel
theorem dX12_laysMended_55 : decode cX12_laysMended 55 = .ok (.invokevirtual 416, 3) := by decide +kernel
theorem dX12_laysMended_58 : decode cX12_laysMended 58 = .ok (.aload_n 0, 1) := by decide +kernel
theorem dX12_laysMended_59 : decode cX12_laysMended 59 = .ok (.getfield 95, 3) := by decide +kernel
theorem dX12_laysMended_62 : decode cX12_laysMended 62 = .ok (.sipush 781, 3) := by decide +kernel
theorem dX12_laysMended_65 : decode cX12_laysMended 65 = .ok (.iload_n 1, 1) := by decide +kernel
theorem dX12_laysMended_66 : decode cX12_laysMended 66 = .ok (.imul, 1) := by decide +kernel
theorem dX12_laysMended_67 : decode cX12_laysMended 67 = .ok (.sipush 780, 3) := by decide +kernel
theorem dX12_laysMended_70 : decode cX12_laysMended 70 = .ok (.iadd, 1) := by decide +kernel
theorem dX12_laysMended_71 : decode cX12_laysMended 71 = .ok (.ldc 196, 2) := by decide +kernel
theorem dX12_laysMended_73 : decode cX12_laysMended 73 = .ok (.iastore, 1) := by decide +kernel
theorem dX12_laysMended_74 : decode cX12_laysMended 74 = .ok (.sipush 779, 3) := by decide +kernel
theorem dX12_laysMended_77 : decode cX12_laysMended 77 = .ok (.istore_n 2, 1) := by decide +kernel
theorem dX12_laysMended_78 : decode cX12_laysMended 78 = .ok (.iload_n 2, 1) := by decide +kernel
theorem dX12_laysMended_79 : decode cX12_laysMended 79 = .ok (.ifCond .lt 38, 3) := by decide +kernel
theorem dX12_laysMended_82 : decode cX12_laysMended 82 = .ok (.aload_n 0, 1) := by decide +kernel
theorem dX12_laysMended_83 : decode cX12_laysMended 83 = .ok (.getfield 95, 3) := by decide +kernel
theorem dX12_laysMended_86 : decode cX12_laysMended 86 = .ok (.sipush 781, 3) := by decide +kernel
theorem dX12_laysMended_89 : decode cX12_laysMended 89 = .ok (.iload_n 1, 1) := by decide +kernel
theorem dX12_laysMended_90 : decode cX12_laysMended 90 = .ok (.imul, 1) := by decide +kernel
theorem dX12_laysMended_91 : decode cX12_laysMended 91 = .ok (.iload_n 2, 1) := by decide +kernel
theorem dX12_laysMended_92 : decode cX12_laysMended 92 = .ok (.iadd, 1) := by decide +kernel
theorem dX12_laysMended_93 : decode cX12_laysMended 93 = .ok (.aload_n 0, 1) := by decide +kernel
theorem dX12_laysMended_94 : decode cX12_laysMended 94 = .ok (.iload_n 1, 1) := by decide +kernel
theorem dX12_laysMended_95 : decode cX12_laysMended 95 = .ok (.iload_n 2, 1) := by decide +kernel
theorem dX12_laysMended_96 : decode cX12_laysMended 96 = .ok (.iconst 1, 1) := by decide +kernel
theorem dX12_laysMended_97 : decode cX12_laysMended 97 = .ok (.iadd, 1) := by decide +kernel
theorem dX12_laysMended_98 : decode cX12_laysMended 98 = .ok (.invokevirtual 413, 3) := by decide +kernel
theorem dX12_laysMended_101 : decode cX12_laysMended 101 = .ok (.aload_n 0, 1) := by decide +kernel
theorem dX12_laysMended_102 : decode cX12_laysMended 102 = .ok (.iload_n 1, 1) := by decide +kernel
theorem dX12_laysMended_103 : decode cX12_laysMended 103 = .ok (.iload_n 2, 1) := by decide +kernel
theorem dX12_laysMended_104 : decode cX12_laysMended 104 = .ok (.invokevirtual 419, 3) := by decide +kernel
theorem dX12_laysMended_107 : decode cX12_laysMended 107 = .ok (.invokestatic 362, 3) := by decide +kernel
theorem dX12_laysMended_110 : decode cX12_laysMended 110 = .ok (.iastore, 1) := by decide +kernel
theorem dX12_laysMended_111 : decode cX12_laysMended 111 = .ok (.iinc 2 (-1), 3) := by decide +kernel
theorem dX12_laysMended_114 : decode cX12_laysMended 114 = .ok (.goto (-36), 3) := by decide +kernel
theorem dX12_laysMended_117 : decode cX12_laysMended 117 = .ok (.iinc 1 (-1), 3) := by decide +kernel
theorem dX12_laysMended_120 : decode cX12_laysMended 120 = .ok (.goto (-71), 3) := by decide +kernel
theorem dX12_laysMended_123 : decode cX12_laysMended 123 = .ok (.aload_n 0, 1) := by decide +kernel
theorem dX12_laysMended_124 : decode cX12_laysMended 124 = .ok (.iconst 0, 1) := by decide +kernel
theorem dX12_laysMended_125 : decode cX12_laysMended 125 = .ok (.iconst 0, 1) := by decide +kernel
theorem dX12_laysMended_126 : decode cX12_laysMended 126 = .ok (.invokevirtual 413, 3) := by decide +kernel
theorem dX12_laysMended_129 : decode cX12_laysMended 129 = .ok (.ireturn, 1) := by decide +kernel
abbrev mX12_laysMended : zq_M := (cX12_laysMended, RX12, "laysMended", (some .int), 3)
theorem dX12_mend_0 : decode cX12_mend 0 = .ok (.iload_n 1, 1) := by decide +kernel
theorem dX12_mend_1 : decode cX12_mend 1 = .ok (.iconst 0, 1) := by decide +kernel
theorem dX12_mend_2 : decode cX12_mend 2 = .ok (.aload_n 0, 1) := by decide +kernel
theorem dX12_mend_3 : decode cX12_mend 3 = .ok (.invokevirtual 141, 3) := by decide +kernel
theorem dX12_mend_6 : decode cX12_mend 6 = .ok (.invokestatic 18, 3) := by decide +kernel
theorem dX12_mend_9 : decode cX12_mend 9 = .ok (.ifCond .ne 5, 3) := by decide +kernel
theorem dX12_mend_12 : decode cX12_mend 12 = .ok (.iconst (-1), 1) := by decide +kernel
theorem dX12_mend_13 : decode cX12_mend 13 = .ok (.ireturn, 1) := by decide +kernel
theorem dX12_mend_14 : decode cX12_mend 14 = .ok (.aload_n 0, 1) := by decide +kernel
theorem dX12_mend_15 : decode cX12_mend 15 = .ok (.invokevirtual 422, 3) := by decide +kernel
theorem dX12_mend_18 : decode cX12_mend 18 = .ok (.istore_n 2, 1) := by decide +kernel
theorem dX12_mend_19 : decode cX12_mend 19 = .ok (.iload_n 2, 1) := by decide +kernel
theorem dX12_mend_20 : decode cX12_mend 20 = .ok (.ldc 196, 2) := by decide +kernel
theorem dX12_mend_22 : decode cX12_mend 22 = .ok (.if_icmp .eq 7, 3) := by decide +kernel
theorem dX12_mend_25 : decode cX12_mend 25 = .ok (.iload_n 1, 1) := by decide +kernel
theorem dX12_mend_26 : decode cX12_mend 26 = .ok (.ifCond .ne 15, 3) := by decide +kernel
theorem dX12_mend_29 : decode cX12_mend 29 = .ok (.iload_n 2, 1) := by decide +kernel
theorem dX12_mend_30 : decode cX12_mend 30 = .ok (.ldc 196, 2) := by decide +kernel
theorem dX12_mend_32 : decode cX12_mend 32 = .ok (.if_icmp .ne 7, 3) := by decide +kernel
theorem dX12_mend_35 : decode cX12_mend 35 = .ok (.iconst (-1), 1) := by decide +kernel
theorem dX12_mend_36 : decode cX12_mend 36 = .ok (.goto 4, 3) := by decide +kernel
theorem dX12_mend_39 : decode cX12_mend 39 = .ok (.iload_n 2, 1) := by decide +kernel
theorem dX12_mend_40 : decode cX12_mend 40 = .ok (.ireturn, 1) := by decide +kernel
theorem dX12_mend_41 : decode cX12_mend 41 = .ok (.iconst 0, 1) := by decide +kernel
theorem dX12_mend_42 : decode cX12_mend 42 = .ok (.istore_n 3, 1) := by decide +kernel
theorem dX12_mend_43 : decode cX12_mend 43 = .ok (.iconst 0, 1) := by decide +kernel
theorem dX12_mend_44 : decode cX12_mend 44 = .ok (.istore 4, 2) := by decide +kernel
theorem dX12_mend_46 : decode cX12_mend 46 = .ok (.iload 4, 2) := by decide +kernel
theorem dX12_mend_48 : decode cX12_mend 48 = .ok (.iload_n 1, 1) := by decide +kernel
theorem dX12_mend_49 : decode cX12_mend 49 = .ok (.if_icmp .ge 17, 3) := by decide +kernel
theorem dX12_mend_52 : decode cX12_mend 52 = .ok (.aload_n 0, 1) := by decide +kernel
theorem dX12_mend_53 : decode cX12_mend 53 = .ok (.iload 4, 2) := by decide +kernel
theorem dX12_mend_55 : decode cX12_mend 55 = .ok (.iload_n 3, 1) := by decide +kernel
theorem dX12_mend_56 : decode cX12_mend 56 = .ok (.invokevirtual 425, 3) := by decide +kernel
theorem dX12_mend_59 : decode cX12_mend 59 = .ok (.istore_n 3, 1) := by decide +kernel
theorem dX12_mend_60 : decode cX12_mend 60 = .ok (.iinc 4 1, 3) := by decide +kernel
theorem dX12_mend_63 : decode cX12_mend 63 = .ok (.goto (-17), 3) := by decide +kernel
theorem dX12_mend_66 : decode cX12_mend 66 = .ok (.aload_n 0, 1) := by decide +kernel
theorem dX12_mend_67 : decode cX12_mend 67 = .ok (.getfield 89, 3) := by decide +kernel
theorem dX12_mend_70 : decode cX12_mend 70 = .ok (.iload_n 3, 1) := by decide +kernel
theorem dX12_mend_71 : decode cX12_mend 71 = .ok (.iaload, 1) := by decide +kernel
theorem dX12_mend_72 : decode cX12_mend 72 = .ok (.ireturn, 1) := by decide +kernel
abbrev mX12_mend : zq_M := (cX12_mend, RX12, "mend", (some .int), 5)
theorem dX12_firstName_0 : decode cX12_firstName 0 = .ok (.iload_n 2, 1) := by decide +kernel
theorem dX12_firstName_1 : decode cX12_firstName 1 = .ok (.istore_n 3, 1) := by decide +kernel
theorem dX12_firstName_2 : decode cX12_firstName 2 = .ok (.aload_n 0, 1) := by decide +kernel
theorem dX12_firstName_3 : decode cX12_firstName 3 = .ok (.iload_n 1, 1) := by decide +kernel
theorem dX12_firstName_4 : decode cX12_firstName 4 = .ok (.iload_n 3, 1) := by decide +kernel
theorem dX12_firstName_5 : decode cX12_firstName 5 = .ok (.invokevirtual 419, 3) := by decide +kernel
theorem dX12_firstName_8 : decode cX12_firstName 8 = .ok (.aload_n 0, 1) := by decide +kernel
theorem dX12_firstName_9 : decode cX12_firstName 9 = .ok (.iload_n 1, 1) := by decide +kernel
theorem dX12_firstName_10 : decode cX12_firstName 10 = .ok (.iload_n 3, 1) := by decide +kernel
theorem dX12_firstName_11 : decode cX12_firstName 11 = .ok (.invokevirtual 413, 3) := by decide +kernel
theorem dX12_firstName_14 : decode cX12_firstName 14 = .ok (.if_icmp .eq 9, 3) := by decide +kernel
theorem dX12_firstName_17 : decode cX12_firstName 17 = .ok (.iinc 3 1, 3) := by decide +kernel
theorem dX12_firstName_20 : decode cX12_firstName 20 = .ok (.goto (-18), 3) := by decide +kernel
theorem dX12_firstName_23 : decode cX12_firstName 23 = .ok (.iload_n 3, 1) := by decide +kernel
theorem dX12_firstName_24 : decode cX12_firstName 24 = .ok (.ireturn, 1) := by decide +kernel
abbrev mX12_firstName : zq_M := (cX12_firstName, RX12, "firstName", (some .int), 4)
theorem dX12_compare_0 : decode cX12_compare 0 = .ok (.aload_n 0, 1) := by decide +kernel
theorem dX12_compare_1 : decode cX12_compare 1 = .ok (.iload_n 1, 1) := by decide +kernel
theorem dX12_compare_2 : decode cX12_compare 2 = .ok (.invokevirtual 280, 3) := by decide +kernel
theorem dX12_compare_5 : decode cX12_compare 5 = .ok (.ifCond .ne 5, 3) := by decide +kernel
theorem dX12_compare_8 : decode cX12_compare 8 = .ok (.iconst (-1), 1) := by decide +kernel
theorem dX12_compare_9 : decode cX12_compare 9 = .ok (.ireturn, 1) := by decide +kernel
theorem dX12_compare_10 : decode cX12_compare 10 = .ok (.aload_n 0, 1) := by decide +kernel
theorem dX12_compare_11 : decode cX12_compare 11 = .ok (.getfield 42, 3) := by decide +kernel
theorem dX12_compare_14 : decode cX12_compare 14 = .ok (.bipush 76, 2) := by decide +kernel
theorem dX12_compare_16 : decode cX12_compare 16 = .ok (.iaload, 1) := by decide +kernel
theorem dX12_compare_17 : decode cX12_compare 17 = .ok (.istore_n 2, 1) := by decide +kernel
theorem dX12_compare_18 : decode cX12_compare 18 = .ok (.aload_n 0, 1) := by decide +kernel
theorem dX12_compare_19 : decode cX12_compare 19 = .ok (.getfield 42, 3) := by decide +kernel
theorem dX12_compare_22 : decode cX12_compare 22 = .ok (.bipush 76, 2) := by decide +kernel
theorem dX12_compare_24 : decode cX12_compare 24 = .ok (.iload_n 1, 1) := by decide +kernel
theorem dX12_compare_25 : decode cX12_compare 25 = .ok (.iastore, 1) := by decide +kernel
theorem dX12_compare_26 : decode cX12_compare 26 = .ok (.aload_n 0, 1) := by decide +kernel
theorem dX12_compare_27 : decode cX12_compare 27 = .ok (.iconst 0, 1) := by decide +kernel
theorem dX12_compare_28 : decode cX12_compare 28 = .ok (.invokevirtual 428, 3) := by decide +kernel
theorem dX12_compare_31 : decode cX12_compare 31 = .ok (.istore_n 3, 1) := by decide +kernel
theorem dX12_compare_32 : decode cX12_compare 32 = .ok (.aload_n 0, 1) := by decide +kernel
theorem dX12_compare_33 : decode cX12_compare 33 = .ok (.getfield 42, 3) := by decide +kernel
theorem dX12_compare_36 : decode cX12_compare 36 = .ok (.bipush 76, 2) := by decide +kernel
theorem dX12_compare_38 : decode cX12_compare 38 = .ok (.iload_n 2, 1) := by decide +kernel
theorem dX12_compare_39 : decode cX12_compare 39 = .ok (.iastore, 1) := by decide +kernel
theorem dX12_compare_40 : decode cX12_compare 40 = .ok (.iload_n 3, 1) := by decide +kernel
theorem dX12_compare_41 : decode cX12_compare 41 = .ok (.ireturn, 1) := by decide +kernel
abbrev mX12_compare : zq_M := (cX12_compare, RX12, "compare", (some .int), 4)
section ZL31
variable {l : Launch} {G : zq_G} {n m : Nat} {σ : zm_S} {ρ : Nat → zq_E} {x w rk al : Nat → Nat} {Lo : Option (List zLC)}
theorem zm_restOf {D j i : Nat} {post : Option Value → Nat → (Nat → zq_E) → Prop} (hj : j ≤ 7) (hi : i ≤ 780) (hp : post (some (.int (σ.2.1 88 (781 * j + i)))) n (zm_h σ ρ)) : zq_Runs l G D 0 0 yX12_restOf [.ref 70, .int (nI j), .int (nI i)] n (zm_h σ ρ) post := by
  refine zq_enter (cc := cX12_restOf) (nL := 3) (ret := (some .int)) cw_X12_restOf (by decide) rfl (Nat.le_of_ble_eq_true rfl) ?_
  refine at_aload_n dX12_restOf_0 rfl ?_
  refine at_get dX12_restOf_1 fl_X12_95 rfl rfl ?_
  refine at_sipush dX12_restOf_4 (v := nI 781) (by decide) ?_
  refine at_iload_n dX12_restOf_7 rfl ?_
  refine at_imulN dX12_restOf_8 ?_
  refine at_iload_n dX12_restOf_9 rfl ?_
  refine at_iaddN dX12_restOf_10 ?_
  refine at_mald (a := 88) dX12_restOf_11 (by decide) (by decide) (by decide) (by decide) rfl rfl (by show _ < 6248; omega) (by decide) ?_
  refine at_iret dX12_restOf_12 rfl (by omega) (by omega) ?_
  exact hp
theorem zm_withName {D j i a b : Nat} {post : Option Value → Nat → (Nat → zq_E) → Prop} (hD : 1 ≤ D) (hj : j < 7) (hi : i < 780) (h1 : σ.2.1 87 (780 * j + i) = nI a) (h2 : σ.2.1 88 (781 * (j + 1) + i) = nI b) (ha : a ≤ 1000000) (hb : b ≤ 1000000) (hp : post (some (.int (nI (min 1000000 (a + b))))) n (zm_h σ ρ)) : zq_Runs l G D 0 0 yX12_withName [.ref 70, .int (nI j), .int (nI i)] n (zm_h σ ρ) post := by
  refine zq_enter (cc := cX12_withName) (nL := 3) (ret := (some .int)) cw_X12_withName (by decide) rfl (Nat.le_of_ble_eq_true rfl) ?_
  refine at_ldc dX12_withName_0 (v := nI 1000000) kc_X12_196 ?_
  refine at_aload_n dX12_withName_2 rfl ?_
  refine at_get dX12_withName_3 fl_X12_92 rfl rfl ?_
  refine at_sipush dX12_withName_6 (v := nI 780) (by decide) ?_
  refine at_iload_n dX12_withName_9 rfl ?_
  refine at_imulN dX12_withName_10 ?_
  refine at_iload_n dX12_withName_11 rfl ?_
  refine at_iaddN dX12_withName_12 ?_
  refine at_mald (a := 87) dX12_withName_13 (by decide) (by decide) (by decide) (by decide) rfl rfl (by show _ < 5460; omega) (by decide) ?_
  rw [h1]
  refine at_aload_n dX12_withName_14 rfl ?_
  refine at_iload_n dX12_withName_15 rfl ?_
  refine at_iconst dX12_withName_16 (v := nI 1) (by decide) ?_
  refine at_iaddN dX12_withName_17 ?_
  refine at_iload_n dX12_withName_18 rfl ?_
  refine at_callV2 (d := D - 1) dX12_withName_19 mv_X12_413 rfl (Nat.le_of_ble_eq_true rfl) (zq_r0 (by omega) (by omega) (by omega)) ?_
  refine zm_restOf (by omega) (by omega) ?_
  rw [h2]
  refine at_iaddN dX12_withName_22 ?_
  refine at_callS2 (d := D - 1) dX12_withName_23 ms_X12_362 (Nat.le_of_ble_eq_true rfl) (zq_r0 (by omega) (by omega) (by omega)) ?_
  refine zm_lesser ?_
  rw [zless (by omega) (by omega)]
  refine at_iret dX12_withName_26 rfl (by omega) (by omega) ?_
  exact hp
theorem zm_lm_0 {D : Nat} {post : Option Value → Nat → (Nat → zq_E) → Prop} (hm7 : m ≤ 7) (h73 : σ.2.1 72 73 = nI m) (hq : ∀ g, (∀ r, r ≤ 780 → g (781 * m + r) = nI 0) → zq_At l G (zq_rm D 0 0) mX12_laysMended (zq_QF G post 0 0) 42 [(0, .ref 70)] [] n (zm_h (zsA σ 88 g) ρ) 0 0) (hD : 1 ≤ D) : ∀ f i : Nat, i + f = 781 → ∀ g, (∀ r, r < i → g (781 * m + r) = nI 0) → zq_At l G (zq_rm D 0 0) mX12_laysMended (zq_QF G post 0 0) 13 [(0, .ref 70), (1, .int (nI i))] [] n (zm_h (zsA σ 88 g) ρ) 0 0 := by
  intro f
  induction f with
  | zero =>
    intro i hi g hg
    obtain rfl : i = 781 := hi
    refine at_iload_n dX12_laysMended_13 rfl ?_
    refine at_sipush dX12_laysMended_14 (v := nI 780) (by decide) ?_
    refine at_gtN (tgt := 42) dX12_laysMended_17 (by decide) (by omega) (by omega) (fun c17 => ?_) (fun c17 => ?_)
    · exact at_lv [0] (hq g (fun r hr => hg r (by omega)))
    · omega
  | succ f ih =>
    intro i hi g hg
    have hn := ih (i + 1) (by omega) (upd g (781 * m + i) (nI 0)) (fun r hr => by
      by_cases e : r = i
      · subst e; rw [upd_s]
      · rw [upd_o _ (by omega)]; exact hg r (by omega))
    have h73' : (zsA σ 88 g).2.1 72 73 = nI m := by rw [zsA_o _ (by decide)]; exact h73
    refine at_iload_n dX12_laysMended_13 rfl ?_
    refine at_sipush dX12_laysMended_14 (v := nI 780) (by decide) ?_
    refine at_gtN (tgt := 42) dX12_laysMended_17 (by decide) (by omega) (by omega) (fun c17 => ?_) (fun c17 => ?_)
    · omega
    · refine at_aload_n dX12_laysMended_20 rfl ?_
      refine at_get dX12_laysMended_21 fl_X12_95 rfl rfl ?_
      refine at_sipush dX12_laysMended_24 (v := nI 781) (by decide) ?_
      refine at_aload_n dX12_laysMended_27 rfl ?_
      refine at_callV0 (d := D - 1) dX12_laysMended_28 mv_X12_141 rfl (Nat.le_of_ble_eq_true rfl) (zq_r0 (by omega) (by omega) (by omega)) ?_
      refine zm_many h73' ?_
      refine at_imulN dX12_laysMended_31 ?_
      refine at_iload_n dX12_laysMended_32 rfl ?_
      refine at_iaddN dX12_laysMended_33 ?_
      refine at_iconst dX12_laysMended_34 (v := nI 0) (by decide) ?_
      refine at_mast (a := 88) dX12_laysMended_35 (by decide) (by decide) (by decide) (by decide) rfl rfl (by show _ < 6248; omega) (by decide) ?_
      rw [zsA_a]
      refine at_iincN dX12_laysMended_36 rfl (by decide) ?_
      refine at_goto (tgt := 13) dX12_laysMended_39 (by decide) ?_
      exact hn
theorem zm_lm_in {D j : Nat} {c : Nat → Nat → Nat} {post : Option Value → Nat → (Nat → zq_E) → Prop} (hD : 2 ≤ D) (hm7 : m ≤ 7) (hj : j < m) (hc : ∀ a r, c a r ≤ 1000000) (h87 : ∀ r, r < 780 → σ.2.1 87 (780 * j + r) = nI (c j r))
    (hq : ∀ g, (∀ a r, j ≤ a → a ≤ m → r ≤ 780 → g (781 * a + r) = nI (zrs c m a r)) → zq_At l G (zq_rm D 0 0) mX12_laysMended (zq_QF G post 0 0) 117 [(0, .ref 70), (1, .int (nI j))] [] n (zm_h (zsA σ 88 g) ρ) 0 0) :
    ∀ i : Nat, i ≤ 780 → ∀ g, (∀ a r, j < a → a ≤ m → r ≤ 780 → g (781 * a + r) = nI (zrs c m a r)) → (∀ r, i ≤ r → r ≤ 780 → g (781 * j + r) = nI (zrs c m j r)) → zq_At l G (zq_rm D 0 0) mX12_laysMended (zq_QF G post 0 0) 78 [(0, .ref 70), (1, .int (nI j)), (2, .int (nI i - 1))] [] n (zm_h (zsA σ 88 g) ρ) 0 0 := by
  intro i
  induction i with
  | zero =>
    intro hi g h1 h2
    refine at_iload_n dX12_laysMended_78 rfl ?_
    refine at_if_lt (tgt := 117) dX12_laysMended_79 (by decide) (fun c79 => ?_) (fun c79 => ?_)
    · refine at_lv [0, 1] (hq g (fun a r q1 q2 q3 => ?_))
      by_cases e : a = j
      · subst e; exact h2 r (Nat.zero_le _) q3
      · exact h1 a r (by omega) q2 q3
    · exact absurd (by decide) c79
  | succ i ih =>
    intro hi g h1 h2
    have hr1 := zrs_le c m j (i + 1)
    have hr2 := zrs_le c m (j + 1) i
    have hw := zwn_le c m j i
    have hcb := hc j i
    have hn := ih (by omega) (upd g (781 * j + i) (nI (zrs c m j i))) (fun a r q1 q2 q3 => by rw [upd_o _ (by omega)]; exact h1 a r q1 q2 q3) (fun r q1 q2 => by
      by_cases e : r = i
      · subst e; rw [upd_s]
      · rw [upd_o _ (by omega)]; exact h2 r (by omega) q2)
    rw [zrs_s c hj (by omega)] at hn
    rw [nI_pred]
    refine at_iload_n dX12_laysMended_78 rfl ?_
    refine at_if_lt (tgt := 117) dX12_laysMended_79 (by decide) (fun c79 => ?_) (fun c79 => ?_)
    · exact absurd c79 (nI_pos (by omega))
    · refine at_aload_n dX12_laysMended_82 rfl ?_
      refine at_get dX12_laysMended_83 fl_X12_95 rfl rfl ?_
      refine at_sipush dX12_laysMended_86 (v := nI 781) (by decide) ?_
      refine at_iload_n dX12_laysMended_89 rfl ?_
      refine at_imulN dX12_laysMended_90 ?_
      refine at_iload_n dX12_laysMended_91 rfl ?_
      refine at_iaddN dX12_laysMended_92 ?_
      refine at_aload_n dX12_laysMended_93 rfl ?_
      refine at_iload_n dX12_laysMended_94 rfl ?_
      refine at_iload_n dX12_laysMended_95 rfl ?_
      refine at_iconst dX12_laysMended_96 (v := nI 1) (by decide) ?_
      refine at_iaddN dX12_laysMended_97 ?_
      refine at_callV2 (d := D - 1) dX12_laysMended_98 mv_X12_413 rfl (Nat.le_of_ble_eq_true rfl) (zq_r0 (by omega) (by omega) (by omega)) ?_
      refine zm_restOf (by omega) (by omega) ?_
      rw [zsA_s, h2 (i + 1) (by omega) (by omega)]
      refine at_aload_n dX12_laysMended_101 rfl ?_
      refine at_iload_n dX12_laysMended_102 rfl ?_
      refine at_iload_n dX12_laysMended_103 rfl ?_
      refine at_callV2 (d := D - 1) dX12_laysMended_104 mv_X12_419 rfl (Nat.le_of_ble_eq_true rfl) (zq_r0 (by omega) (by omega) (by omega)) ?_
      refine zm_withName (a := c j i) (b := zrs c m (j + 1) i) (by omega) (by omega) (by omega) (by rw [zsA_o _ (by decide)]; exact h87 i (by omega)) (by rw [zsA_s]; exact h1 (j + 1) i (by omega) (by omega) (by omega)) hcb hr2 ?_
      refine at_callS2 (d := D - 1) dX12_laysMended_107 ms_X12_362 (Nat.le_of_ble_eq_true rfl) (zq_r0 (by omega) (by omega) (by omega)) ?_
      refine zm_lesser ?_
      rw [zless (by omega) (by omega)]
      refine at_mast (a := 88) dX12_laysMended_110 (by decide) (by decide) (by decide) (by decide) rfl rfl (by show _ < 6248; omega) (by decide) ?_
      rw [zsA_a]
      refine at_iinc dX12_laysMended_111 rfl rfl (by decide) ?_
      rw [show nI i + Int32.ofInt (-1) = nI i - 1 from (by rw [Int32.sub_eq_add_neg]; rfl)]
      refine at_goto (tgt := 78) dX12_laysMended_114 (by decide) ?_
      exact hn
theorem zm_lm_out {D : Nat} {post : Option Value → Nat → (Nat → zq_E) → Prop} (hD : 76 ≤ D) (hC : zC σ m x w rk) (h72 : zSm (σ.2.1 72 72)) (h19 : zSm (σ.2.1 72 19)) (hF : zForce (σ.2.1 72) Lo) (hal : ∀ k, k < 5 → 1 ≤ al k ∧ al k ≤ 5)
    (hp : ∀ τ, zMe τ σ → (∀ r, r < 780 → τ.2.1 86 r = nI (znm al r)) → (∀ j r, j < m → r < 780 → τ.2.1 87 (780 * j + r) = nI (zmc (σ.2.1 72) m x w Lo al j r)) → (∀ j r, j ≤ m → r ≤ 780 → τ.2.1 88 (781 * j + r) = nI (zrs (zmc (σ.2.1 72) m x w Lo al) m j r)) → post (some (.int (nI (zrs (zmc (σ.2.1 72) m x w Lo al) m 0 0)))) n (zm_h τ ρ)) :
    ∀ k : Nat, k ≤ m → ∀ τ, zMe τ σ → (∀ r, r < 780 → τ.2.1 86 r = nI (znm al r)) → (∀ j r, k ≤ j → j < m → r < 780 → τ.2.1 87 (780 * j + r) = nI (zmc (σ.2.1 72) m x w Lo al j r)) → (∀ j r, k ≤ j → j ≤ m → r ≤ 780 → τ.2.1 88 (781 * j + r) = nI (zrs (zmc (σ.2.1 72) m x w Lo al) m j r)) → zq_At l G (zq_rm D 0 0) mX12_laysMended (zq_QF G post 0 0) 49 [(0, .ref 70), (1, .int (nI k - 1))] [] n (zm_h τ ρ) 0 0 := by
  intro k
  have hm7 := hC.2.1
  induction k with
  | zero =>
    intro hk τ t1 t2 t3 t4
    have hp := hp τ t1 t2 (fun j r => t3 j r (Nat.zero_le _)) (fun j r => t4 j r (Nat.zero_le _))
    rw [← t4 0 0 (Nat.zero_le _) (Nat.zero_le _) (Nat.zero_le _)] at hp
    refine at_iload_n dX12_laysMended_49 rfl ?_
    refine at_if_lt (tgt := 123) dX12_laysMended_50 (by decide) (fun c50 => ?_) (fun c50 => ?_)
    · refine at_aload_n dX12_laysMended_123 rfl ?_
      refine at_iconst dX12_laysMended_124 (v := nI 0) (by decide) ?_
      refine at_iconst dX12_laysMended_125 (v := nI 0) (by decide) ?_
      refine at_callV2 (d := D - 1) dX12_laysMended_126 mv_X12_413 rfl (Nat.le_of_ble_eq_true rfl) (zq_r0 (by omega) (by omega) (by omega)) ?_
      refine zm_restOf (by omega) (by omega) ?_
      refine at_iret dX12_laysMended_129 rfl (by omega) (by omega) ?_
      exact hp
    · exact absurd (by decide) c50
  | succ k ih =>
    intro hk τ t1 t2 t3 t4
    have e72 := t1.2.1 72 (by decide) (by decide) (by decide) (by decide) (by decide)
    have hCt := zC_congr hC e72 (t1.2.1 76 (by decide) (by decide) (by decide) (by decide) (by decide))
    rw [nI_pred]
    refine at_iload_n dX12_laysMended_49 rfl ?_
    refine at_if_lt (tgt := 123) dX12_laysMended_50 (by decide) (fun c50 => ?_) (fun c50 => ?_)
    · exact absurd c50 (nI_pos (by omega))
    · refine at_aload_n dX12_laysMended_53 rfl ?_
      refine at_iload_n dX12_laysMended_54 rfl ?_
      refine at_callV1 (d := D - 1) dX12_laysMended_55 mv_X12_416 rfl (Nat.le_of_ble_eq_true rfl) (zq_r0 (by omega) (by omega) (by omega)) ?_
      refine zm_laysCosts (by omega) hCt (by omega) (by rw [e72]; exact h72) (by rw [e72]; exact h19) (by rw [e72]; exact hF) (fun r hr => znm_vn hal hr) t2 (fun υ u1 u2 u3 => ?_)
      rw [e72] at u2
      refine at_aload_n dX12_laysMended_58 rfl ?_
      refine at_get dX12_laysMended_59 fl_X12_95 rfl rfl ?_
      refine at_sipush dX12_laysMended_62 (v := nI 781) (by decide) ?_
      refine at_iload_n dX12_laysMended_65 rfl ?_
      refine at_imulN dX12_laysMended_66 ?_
      refine at_sipush dX12_laysMended_67 (v := nI 780) (by decide) ?_
      refine at_iaddN dX12_laysMended_70 ?_
      refine at_ldc dX12_laysMended_71 (v := nI 1000000) kc_X12_196 ?_
      refine at_mast (a := 88) dX12_laysMended_73 (by decide) (by decide) (by decide) (by decide) rfl rfl (by show _ < 6248; omega) (by decide) ?_
      rw [zsA_m]
      refine at_sipush dX12_laysMended_74 (v := nI 779) (by decide) ?_
      refine at_istore_n dX12_laysMended_77 rfl (by decide) ?_
      refine zm_lm_in (c := zmc (σ.2.1 72) m x w Lo al) (by omega) hm7 (by omega) (zmc_le _ _ _ _ _ _) (fun r hr => u2 r hr) (fun g q1 => ?_) 780 (Nat.le_refl _) _ (fun a r q1 q2 q3 => ?_) (fun r q1 q2 => ?_)
      · have hn := ih (by omega) (zsA υ 88 g) (zMe_a (zMe_t (zMe_c u1) t1)) (fun r hr => by rw [zsA_o _ (by decide), u1.2.1 86 (by decide) (by decide) (by decide)]; exact t2 r hr) (fun j r q2 q3 q4 => by
          rw [zsA_o _ (by decide)]
          by_cases e : j = k
          · subst e; exact u2 r q4
          · rw [u3 _ (by omega)]; exact t3 j r (by omega) q3 q4) (fun j r q2 q3 q4 => by rw [zsA_s]; exact q1 j r q2 q3 q4)
        refine at_iinc dX12_laysMended_117 rfl rfl (by decide) ?_
        rw [show nI k + Int32.ofInt (-1) = nI k - 1 from (by rw [Int32.sub_eq_add_neg]; rfl)]
        refine at_goto (tgt := 49) dX12_laysMended_120 (by decide) ?_
        exact hn
      · rw [upd_o _ (by omega), u1.2.1 88 (by decide) (by decide) (by decide)]
        exact t4 a r (by omega) q2 q3
      · obtain rfl : r = 780 := by omega
        rw [upd_s, zrs_e _ (by omega)]
theorem zm_laysMended {D : Nat} {post : Option Value → Nat → (Nat → zq_E) → Prop} (hD : 77 ≤ D) (hC : zC σ m x w rk) (h72 : zSm (σ.2.1 72 72)) (h19 : zSm (σ.2.1 72 19)) (hF : zForce (σ.2.1 72) Lo) (hal : ∀ k, k < 5 → σ.2.1 72 (14 + k) = nI (al k) ∧ al k < 6) (hpm : zpm al)
    (hp : ∀ τ, zMe τ σ → (∀ r, r < 780 → τ.2.1 86 r = nI (znm al r)) → (∀ j r, j < m → r < 780 → τ.2.1 87 (780 * j + r) = nI (zmc (σ.2.1 72) m x w Lo al j r)) → (∀ j r, j ≤ m → r ≤ 780 → τ.2.1 88 (781 * j + r) = nI (zrs (zmc (σ.2.1 72) m x w Lo al) m j r)) → post (some (.int (nI (zrs (zmc (σ.2.1 72) m x w Lo al) m 0 0)))) n (zm_h τ ρ)) : zq_Runs l G D 0 0 yX12_laysMended [.ref 70] n (zm_h σ ρ) post := by
  have hm7 := hC.2.1
  have e0 : zm_si σ 35 (nI 0) = zon σ (σ.2.1 86) 0 := by unfold zon; rw [zsA_0]
  refine zq_enter (cc := cX12_laysMended) (nL := 3) (ret := (some .int)) cw_X12_laysMended (by decide) rfl (Nat.le_of_ble_eq_true rfl) ?_
  refine at_aload_n dX12_laysMended_0 rfl ?_
  refine at_iconst dX12_laysMended_1 (v := nI 0) (by decide) ?_
  refine at_mput dX12_laysMended_2 (pl_X12_404 _) (fun _ => ⟨_, rfl⟩) rfl rfl ?_
  rw [e0]
  refine at_aload_n dX12_laysMended_5 rfl ?_
  refine at_iconst dX12_laysMended_6 (v := nI 0) (by decide) ?_
  refine at_iconst dX12_laysMended_7 (v := nI 0) (by decide) ?_
  refine at_callV2 (d := D - 1) dX12_laysMended_8 mv_X12_407 rfl (Nat.le_of_ble_eq_true rfl) (zq_r0 (by omega) (by omega) (by omega)) ?_
  refine zm_laysNames0 (by omega) hal (fun g q1 => ?_)
  have h73 : (zon σ g 780).2.1 72 73 = nI m := by rw [zon_72]; exact hC.1
  have e72 := zon_72 σ g 780
  have e76 : (zon σ g 780).2.1 76 = σ.2.1 76 := zsA_o _ (by decide) _
  refine at_iconst dX12_laysMended_11 (v := nI 0) (by decide) ?_
  refine at_istore_n dX12_laysMended_12 rfl (by decide) ?_
  have hgo := zm_lm_0 (l := l) (G := G) (n := n) (ρ := ρ) (D := D) (post := post) hm7 h73 (fun g' q2 => by
    have h73' : (zsA (zon σ g 780) 88 g').2.1 72 73 = nI m := by rw [zsA_o _ (by decide)]; exact h73
    refine at_aload_n dX12_laysMended_42 rfl ?_
    refine at_callV0 (d := D - 1) dX12_laysMended_43 mv_X12_141 rfl (Nat.le_of_ble_eq_true rfl) (zq_r0 (by omega) (by omega) (by omega)) ?_
    refine zm_many h73' ?_
    refine at_iconst dX12_laysMended_46 (v := nI 1) (by decide) ?_
    refine at_isub dX12_laysMended_47 ?_
    refine at_istore_n dX12_laysMended_48 rfl (by decide) ?_
    refine zm_lm_out (by omega) hC h72 h19 hF (fun k hk => hpm.1 k hk) hp m (Nat.le_refl _) _ (zMe_a zMe_n) (fun r hr => ?_) (fun j r q3 q4 => by omega) (fun j r q3 q4 q5 => ?_)
    · rw [zsA_o _ (by decide)]
      show (zsA σ 86 g).2.1 86 r = _
      rw [zsA_s]; exact q1 r hr
    · obtain rfl : j = m := by omega
      rw [zsA_s, zrs_m]; exact q2 r q5
    ) (by omega) 781 0 rfl ((zon σ g 780).2.1 88) (fun r hr => absurd hr (Nat.not_lt_zero _))
  rw [zsA_0] at hgo
  exact hgo
theorem zm_firstName {D j : Nat} {c : Nat → Nat → Nat} {post : Option Value → Nat → (Nat → zq_E) → Prop} (hD : 2 ≤ D) (hm7 : m ≤ 7) (hj : j < m) (hc : ∀ a r, c a r ≤ 1000000) (h87 : ∀ r, r < 780 → σ.2.1 87 (780 * j + r) = nI (c j r)) (h88 : ∀ a r, a ≤ m → r ≤ 780 → σ.2.1 88 (781 * a + r) = nI (zrs c m a r)) {i0 : Nat} (hi : i0 < 780) (h0 : zrs c m j i0 < 1000000)
    (hp : post (some (.int (nI (zff (zwn c m j) (zrs c m j) (780 - i0) i0)))) n (zm_h σ ρ)) : zq_Runs l G D 0 0 yX12_firstName [.ref 70, .int (nI j), .int (nI i0)] n (zm_h σ ρ) post := by
  have loop : ∀ f i, i + f = 780 → i < 780 → zrs c m j i < 1000000 → post (some (.int (nI (zff (zwn c m j) (zrs c m j) f i)))) n (zm_h σ ρ) → zq_At l G (zq_rm D 0 0) mX12_firstName (zq_QF G post 0 0) 2 [(0, .ref 70), (1, .int (nI j)), (2, .int (nI i0)), (3, .int (nI i))] [] n (zm_h σ ρ) 0 0 := by
    intro f
    induction f with
    | zero => intro i h1 h2; omega
    | succ f ih =>
      intro i h1 h2 h3 hp
      have hr := zrs_le c m (j + 1) i
      have hw := zwn_le c m j i
      unfold zff at hp
      refine at_aload_n dX12_firstName_2 rfl ?_
      refine at_iload_n dX12_firstName_3 rfl ?_
      refine at_iload_n dX12_firstName_4 rfl ?_
      refine at_callV2 (d := D - 1) dX12_firstName_5 mv_X12_419 rfl (Nat.le_of_ble_eq_true rfl) (zq_r0 (by omega) (by omega) (by omega)) ?_
      refine zm_withName (a := c j i) (b := zrs c m (j + 1) i) (by omega) (by omega) (by omega) (h87 i h2) (h88 (j + 1) i (by omega) (by omega)) (hc j i) hr ?_
      refine at_aload_n dX12_firstName_8 rfl ?_
      refine at_iload_n dX12_firstName_9 rfl ?_
      refine at_iload_n dX12_firstName_10 rfl ?_
      refine at_callV2 (d := D - 1) dX12_firstName_11 mv_X12_413 rfl (Nat.le_of_ble_eq_true rfl) (zq_r0 (by omega) (by omega) (by omega)) ?_
      refine zm_restOf (by omega) (by omega) ?_
      rw [h88 j i (by omega) (by omega)]
      refine at_eqN (tgt := 23) dX12_firstName_14 (by decide) (by omega) (by omega) (fun c14 => ?_) (fun c14 => ?_)
      · rw [if_pos (show zwn c m j i = zrs c m j i from c14)] at hp
        refine at_iload_n dX12_firstName_23 rfl ?_
        refine at_iret dX12_firstName_24 rfl (by omega) (by omega) ?_
        exact hp
      · rw [if_neg (show ¬ zwn c m j i = zrs c m j i from c14)] at hp
        have g := zrs_nx hj h2 h3 c14
        have hn := ih (i + 1) (by omega) g.1 g.2 hp
        refine at_iincN dX12_firstName_17 rfl (by decide) ?_
        refine at_goto (tgt := 2) dX12_firstName_20 (by decide) ?_
        exact hn
  refine zq_enter (cc := cX12_firstName) (nL := 4) (ret := (some .int)) cw_X12_firstName (by decide) rfl (Nat.le_of_ble_eq_true rfl) ?_
  refine at_iload_n dX12_firstName_0 rfl ?_
  refine at_istore_n dX12_firstName_1 rfl (by decide) ?_
  exact loop (780 - i0) i0 (by omega) hi h0 hp
/-- the answer of mend -/
def zmdA (al : Nat → Nat) (c : Nat → Nat → Nat) (m j : Nat) : Int32 := if zrs c m 0 0 = 1000000 then -1 else if j = 0 then nI (zrs c m 0 0) else nI (znm al (zfi c m j))
theorem zm_mend {D : Nat} {v : Int32} {post : Option Value → Nat → (Nat → zq_E) → Prop} (hD : 80 ≤ D) (hC : zC σ m x w rk) (h72 : zSm (σ.2.1 72 72)) (h19 : zSm (σ.2.1 72 19)) (hF : zForce (σ.2.1 72) Lo) (hal : ∀ k, k < 5 → σ.2.1 72 (14 + k) = nI (al k) ∧ al k < 6) (hpm : zpm al)
    (hf : (decide (nI 0 ≤ v) && decide (v ≤ nI m)) = false → post (some (.int (-1))) n (zm_h σ ρ)) (ht : ∀ j τ, j ≤ m → v = nI j → zMe τ σ → post (some (.int (zmdA al (zmc (σ.2.1 72) m x w Lo al) m j))) n (zm_h τ ρ)) : zq_Runs l G D 0 0 yX12_mend [.ref 70, .int v] n (zm_h σ ρ) post := by
  have hm7 := hC.2.1
  have hm := hC.1
  refine zq_enter (cc := cX12_mend) (nL := 5) (ret := (some .int)) cw_X12_mend (by decide) rfl (Nat.le_of_ble_eq_true rfl) ?_
  refine at_iload_n dX12_mend_0 rfl ?_
  refine at_iconst dX12_mend_1 (v := nI 0) (by decide) ?_
  refine at_aload_n dX12_mend_2 rfl ?_
  refine at_callV0 (d := D - 1) dX12_mend_3 mv_X12_141 rfl (Nat.le_of_ble_eq_true rfl) (zq_r0 (by omega) (by omega) (by omega)) ?_
  refine zm_many hm ?_
  refine at_callS3 (d := D - 1) dX12_mend_6 ms_X12_18 (Nat.le_of_ble_eq_true rfl) (zq_r0 (by omega) (by omega) (by omega)) ?_
  refine zm_lies ?_
  refine at_if_neB (tgt := 14) dX12_mend_9 (by decide) (fun c9 => ?_) (fun c9 => ?_)
  · obtain ⟨b, -, hb, rfl⟩ := zlies_n (by decide) (by omega) c9
    refine at_aload_n dX12_mend_14 rfl ?_
    refine at_callV0 (d := D - 1) dX12_mend_15 mv_X12_422 rfl (Nat.le_of_ble_eq_true rfl) (zq_r0 (by omega) (by omega) (by omega)) ?_
    refine zm_laysMended (by omega) hC h72 h19 hF hal hpm (fun τ t1 t2 t3 t4 => ?_)
    have hp := ht b τ hb rfl t1
    unfold zmdA at hp
    have hr := zrs_le (zmc (σ.2.1 72) m x w Lo al) m 0 0
    have loop : zrs (zmc (σ.2.1 72) m x w Lo al) m 0 0 < 1000000 → post (some (.int (nI (znm al (zfi (zmc (σ.2.1 72) m x w Lo al) m b))))) n (zm_h τ ρ) → ∀ f k, k + f = b → zq_At l G (zq_rm D 0 0) mX12_mend (zq_QF G post 0 0) 46 [(0, .ref 70), (1, .int (nI b)), (2, .int (nI (zrs (zmc (σ.2.1 72) m x w Lo al) m 0 0))), (3, .int (nI (zfi (zmc (σ.2.1 72) m x w Lo al) m k))), (4, .int (nI k))] [] n (zm_h τ ρ) 0 0 := by
      intro h0 hp f
      induction f with
      | zero =>
        intro k hk
        obtain rfl : k = b := hk
        have g := zfi_ok h0 k hb
        refine at_iload dX12_mend_46 rfl ?_
        refine at_iload_n dX12_mend_48 rfl ?_
        refine at_geN (tgt := 66) dX12_mend_49 (by decide) (by omega) (by omega) (fun c49 => ?_) (fun c49 => ?_)
        · refine at_aload_n dX12_mend_66 rfl ?_
          refine at_get dX12_mend_67 fl_X12_89 rfl rfl ?_
          refine at_iload_n dX12_mend_70 rfl ?_
          refine at_mald (a := 86) dX12_mend_71 (by decide) (by decide) (by decide) (by decide) rfl rfl (by show _ < 780; omega) (by decide) ?_
          rw [t2 _ g.1]
          refine at_iret dX12_mend_72 rfl (by omega) (by omega) ?_
          exact hp
        · omega
      | succ f ih =>
        intro k hk
        have g := zfi_ok h0 k (by omega)
        have hn := ih (k + 1) (by omega)
        unfold zfi at hn
        refine at_iload dX12_mend_46 rfl ?_
        refine at_iload_n dX12_mend_48 rfl ?_
        refine at_geN (tgt := 66) dX12_mend_49 (by decide) (by omega) (by omega) (fun c49 => ?_) (fun c49 => ?_)
        · omega
        · refine at_aload_n dX12_mend_52 rfl ?_
          refine at_iload dX12_mend_53 rfl ?_
          refine at_iload_n dX12_mend_55 rfl ?_
          refine at_callV2 (d := D - 1) dX12_mend_56 mv_X12_425 rfl (Nat.le_of_ble_eq_true rfl) (zq_r0 (by omega) (by omega) (by omega)) ?_
          refine zm_firstName (by omega) hm7 (by omega) (zmc_le _ _ _ _ _ _) (fun r hr => t3 k r (by omega) hr) t4 g.1 g.2 ?_
          refine at_istore_n dX12_mend_59 rfl (by decide) ?_
          refine at_iincN dX12_mend_60 rfl (by decide) ?_
          refine at_goto (tgt := 46) dX12_mend_63 (by decide) ?_
          exact hn
    refine at_istore_n dX12_mend_18 rfl (by decide) ?_
    refine at_iload_n dX12_mend_19 rfl ?_
    refine at_ldc dX12_mend_20 (v := nI 1000000) kc_X12_196 ?_
    refine at_eqN (tgt := 29) dX12_mend_22 (by decide) (by omega) (by omega) (fun c22 => ?_) (fun c22 => ?_)
    · rw [if_pos c22] at hp
      refine at_iload_n dX12_mend_29 rfl ?_
      refine at_ldc dX12_mend_30 (v := nI 1000000) kc_X12_196 ?_
      refine at_neN (tgt := 39) dX12_mend_32 (by decide) (by omega) (by omega) (fun c32 => ?_) (fun c32 => ?_)
      · omega
      · refine at_iconst dX12_mend_35 (v := -1) rfl ?_
        refine at_goto (tgt := 40) dX12_mend_36 (by decide) ?_
        refine at_iret dX12_mend_40 rfl (by omega) (by omega) ?_
        exact hp
    · rw [if_neg c22] at hp
      refine at_iload_n dX12_mend_25 rfl ?_
      refine at_if_neN (tgt := 41) dX12_mend_26 (by decide) (by omega) (fun c26 => ?_) (fun c26 => ?_)
      · rw [if_neg c26] at hp
        refine at_iconst dX12_mend_41 (v := nI 0) (by decide) ?_
        refine at_istore_n dX12_mend_42 rfl (by decide) ?_
        refine at_iconst dX12_mend_43 (v := nI 0) (by decide) ?_
        refine at_istore dX12_mend_44 (by decide) ?_
        exact loop (by omega) hp b 0 (Nat.zero_add _)
      · rw [if_pos c26] at hp
        refine at_iload_n dX12_mend_29 rfl ?_
        refine at_ldc dX12_mend_30 (v := nI 1000000) kc_X12_196 ?_
        refine at_neN (tgt := 39) dX12_mend_32 (by decide) (by omega) (by omega) (fun c32 => ?_) (fun c32 => ?_)
        · refine at_iload_n dX12_mend_39 rfl ?_
          refine at_iret dX12_mend_40 rfl (by omega) (by omega) ?_
          exact hp
        · omega
  · have hp := hf c9
    refine at_iconst dX12_mend_12 (v := -1) rfl ?_
    refine at_iret dX12_mend_13 rfl (by omega) (by omega) ?_
    exact hp
theorem zm_compare {D t : Nat} {v : Int32} {post : Option Value → Nat → (Nat → zq_E) → Prop} (hD : 81 ≤ D) (hC : zC σ m x w rk) (h72 : zSm (σ.2.1 72 72)) (h19 : zSm (σ.2.1 72 19)) (h75 : σ.2.1 72 75 = nI t) (hF : zlw t v = true → zForce (upd (σ.2.1 72) 76 v) Lo) (hal : ∀ k, k < 5 → σ.2.1 72 (14 + k) = nI (al k) ∧ al k < 6) (hpm : zpm al)
    (hf : zlw t v = false → post (some (.int (-1))) n (zm_h σ ρ)) (ht : ∀ τ, zlw t v = true → zMe τ (zsK σ (upd (σ.2.1 72) 76 v)) → post (some (.int (zmdA al (zmc (upd (σ.2.1 72) 76 v) m x w Lo al) m 0))) n (zm_h (zsK τ (upd (upd (σ.2.1 72) 76 v) 76 (σ.2.1 72 76))) ρ)) : zq_Runs l G D 0 0 yX12_compare [.ref 70, .int v] n (zm_h σ ρ) post := by
  have hm7 := hC.2.1
  refine zq_enter (cc := cX12_compare) (nL := 4) (ret := (some .int)) cw_X12_compare (by decide) rfl (Nat.le_of_ble_eq_true rfl) ?_
  refine at_aload_n dX12_compare_0 rfl ?_
  refine at_iload_n dX12_compare_1 rfl ?_
  refine at_callV1 (d := D - 1) dX12_compare_2 mv_X12_280 rfl (Nat.le_of_ble_eq_true rfl) (zq_r0 (by omega) (by omega) (by omega)) ?_
  refine zm_isLaw (by omega) h75 ?_
  rw [show (decide (-1 ≤ v) && decide (v ≤ nI t - nI 1)) = zlw t v from rfl]
  refine at_if_neB (tgt := 10) dX12_compare_5 (by decide) (fun c5 => ?_) (fun c5 => ?_)
  · have hp := fun τ => ht τ c5
    refine at_aload_n dX12_compare_10 rfl ?_
    refine at_get dX12_compare_11 fl_X12_42 rfl rfl ?_
    refine at_bipush dX12_compare_14 (v := nI 76) (by decide) ?_
    refine at_mald (a := 72) dX12_compare_16 (by decide) (by decide) (by decide) (by decide) rfl rfl (by show _ < 5684; omega) (by decide) ?_
    refine at_istore_n dX12_compare_17 rfl (by decide) ?_
    refine at_aload_n dX12_compare_18 rfl ?_
    refine at_get dX12_compare_19 fl_X12_42 rfl rfl ?_
    refine at_bipush dX12_compare_22 (v := nI 76) (by decide) ?_
    refine at_iload_n dX12_compare_24 rfl ?_
    refine at_mast (a := 72) dX12_compare_25 (by decide) (by decide) (by decide) (by decide) rfl rfl (by show _ < 5684; omega) (by decide) ?_
    rw [zsK_s]
    refine at_aload_n dX12_compare_26 rfl ?_
    refine at_iconst dX12_compare_27 (v := nI 0) (by decide) ?_
    refine at_callV1 (d := D - 1) dX12_compare_28 mv_X12_428 rfl (Nat.le_of_ble_eq_true rfl) (zq_r0 (by omega) (by omega) (by omega)) ?_
    refine zm_mend (by omega) (x := x) (w := w) (rk := rk) (al := al) (Lo := Lo) (m := m) ⟨?_, hm7, ?_, ?_, ?_⟩ ?_ ?_ ?_ ?_ hpm (fun h => ?_) (fun j τ hj ej t1 => ?_)
    · rw [zsK_k, upd_o _ (by decide)]; exact hC.1
    · intro p hp; rw [zsK_k, upd_o _ (by omega)]; exact hC.2.2.1 p hp
    · intro p hp; rw [zsK_k, upd_o _ (by omega)]; exact hC.2.2.2.1 p hp
    · intro y h1 h5
      show (zsA σ 72 _).2.1 76 y = _ ∧ _
      rw [zsA_o _ (by decide)]; exact hC.2.2.2.2 y h1 h5
    · rw [zsK_k, upd_o _ (by decide)]; exact h72
    · rw [zsK_k, upd_o _ (by decide)]; exact h19
    · rw [zsK_k]; exact hF c5
    · intro k hk; rw [zsK_k, upd_o _ (by omega)]; exact hal k hk
    · exfalso
      rw [decide_eq_true ((nI_leI (by decide) (by omega)).mpr (Nat.zero_le _)), decide_eq_true ((nI_leI (by decide) (by omega)).mpr (Nat.zero_le _))] at h
      cases h
    obtain rfl : j = 0 := (zn_eq (by omega) (by decide)).mp ej.symm
    have hp := hp τ t1
    have e72 := t1.2.1 72 (by decide) (by decide) (by decide) (by decide) (by decide)
    rw [zsK_k] at e72
    rw [zsK_k]
    refine at_istore_n dX12_compare_31 rfl (by decide) ?_
    refine at_aload_n dX12_compare_32 rfl ?_
    refine at_get dX12_compare_33 fl_X12_42 rfl rfl ?_
    refine at_bipush dX12_compare_36 (v := nI 76) (by decide) ?_
    refine at_iload_n dX12_compare_38 rfl ?_
    refine at_mast (a := 72) dX12_compare_39 (by decide) (by decide) (by decide) (by decide) rfl rfl (by show _ < 5684; omega) (by decide) ?_
    rw [zsK_s, e72]
    refine at_iload_n dX12_compare_40 rfl ?_
    refine at_iret dX12_compare_41 rfl (by omega) (by omega) ?_
    exact hp
  · have hp := hf c5
    refine at_iconst dX12_compare_8 (v := -1) rfl ?_
    refine at_iret dX12_compare_9 rfl (by omega) (by omega) ?_
    exact hp
end ZL31

