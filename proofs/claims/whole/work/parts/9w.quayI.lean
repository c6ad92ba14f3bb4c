/-! ===== a quay is made; images on both sides ===== -/
theorem dX7_init_0 : decode cX7_init 0 = .ok (.aload_n 0, 1) := by decide +kernel
theorem dX7_init_1 : decode cX7_init 1 = .ok (.invokespecial 3, 3) := by decide +kernel
theorem dX7_init_4 : decode cX7_init 4 = .ok (.aload_n 0, 1) := by decide +kernel
theorem dX7_init_5 : decode cX7_init 5 = .ok (.iconst 0, 1) := by decide +kernel
theorem dX7_init_6 : decode cX7_init 6 = .ok (.putfield 9, 3) := by decide +kernel
theorem dX7_init_9 : decode cX7_init 9 = .ok (.aload_n 0, 1) := by decide +kernel
theorem dX7_init_10 : decode cX7_init 10 = .ok (.bipush 7, 2) := by decide +kernel
theorem dX7_init_12 : decode cX7_init 12 = .ok (.newarray .int, 2) := by decide +kernel
theorem dX7_init_14 : decode cX7_init 14 = .ok (.putfield 15, 3) := by decide +kernel
theorem dX7_init_17 : decode cX7_init 17 = .ok (.aload_n 0, 1) := by decide +kernel
theorem dX7_init_18 : decode cX7_init 18 = .ok (.bipush 7, 2) := by decide +kernel
theorem dX7_init_20 : decode cX7_init 20 = .ok (.newarray .int, 2) := by decide +kernel
theorem dX7_init_22 : decode cX7_init 22 = .ok (.putfield 19, 3) := by decide +kernel
theorem dX7_init_25 : decode cX7_init 25 = .ok (.aload_n 0, 1) := by decide +kernel
theorem dX7_init_26 : decode cX7_init 26 = .ok (.bipush 7, 2) := by decide +kernel
theorem dX7_init_28 : decode cX7_init 28 = .ok (.newarray .int, 2) := by decide +kernel
theorem dX7_init_30 : decode cX7_init 30 = .ok (.putfield 22, 3) := by decide +kernel
theorem dX7_init_33 : decode cX7_init 33 = .ok (.aload_n 0, 1) := by decide +kernel
theorem dX7_init_34 : decode cX7_init 34 = .ok (.bipush 35, 2) := by decide +kernel
theorem dX7_init_36 : decode cX7_init 36 = .ok (.newarray .int, 2) := by decide +kernel
theorem dX7_init_38 : decode cX7_init 38 = .ok (.putfield 25, 3) := by decide +kernel
theorem dX7_init_41 : decode cX7_init 41 = .ok (.aload_n 0, 1) := by decide +kernel
theorem dX7_init_42 : decode cX7_init 42 = .ok (.iconst 5, 1) := by decide +kernel
theorem dX7_init_43 : decode cX7_init 43 = .ok (.newarray .int, 2) := by decide +kernel
theorem dX7_init_45 : decode cX7_init 45 = .ok (.dup, 1) := by decide +kernel
theorem dX7_init_46 : decode cX7_init 46 = .ok (.iconst 0, 1) := by decide +kernel
theorem dX7_init_47 : decode cX7_init 47 = .ok (.iconst 1, 1) := by decide +kernel
theorem dX7_init_48 : decode cX7_init 48 = .ok (.iastore, 1) := by decide +kernel
theorem dX7_init_49 : decode cX7_init 49 = .ok (.dup, 1) := by decide +kernel
theorem dX7_init_50 : decode cX7_init 50 = .ok (.iconst 1, 1) := by decide +kernel
theorem dX7_init_51 : decode cX7_init 51 = .ok (.iconst 2, 1) := by decide +kernel
theorem dX7_init_52 : decode cX7_init 52 = .ok (.iastore, 1) := by decide +kernel
theorem dX7_init_53 : decode cX7_init 53 = .ok (.dup, 1) := by decide +kernel
theorem dX7_init_54 : decode cX7_init 54 = .ok (.iconst 2, 1) := by decide +kernel
theorem dX7_init_55 : decode cX7_init 55 = .ok (.iconst 3, 1) := by decide +kernel
theorem dX7_init_56 : decode cX7_init 56 = .ok (.iastore, 1) := by decide +kernel
theorem dX7_init_57 : decode cX7_init 57 = .ok (.dup, 1) := by decide +kernel
theorem dX7_init_58 : decode cX7_init 58 = .ok (.iconst 3, 1) := by decide +kernel
theorem dX7_init_59 : decode cX7_init 59 = .ok (.iconst 4, 1) := by decide +kernel
theorem dX7_init_60 : decode cX7_init 60 = .ok (.iastore, 1) := by decide +kernel
theorem dX7_init_61 : decode cX7_init 61 = .ok (.dup, 1) := by decide +kernel
theorem dX7_init_62 : decode cX7_init 62 = .ok (.iconst 4, 1) := by decide +kernel
theorem dX7_init_63 : decode cX7_init 63 = .ok (.iconst 5, 1) := by decide +kernel
theorem dX7_init_64 : decode cX7_init 64 = .ok (.iastore, 1) := by decide +kernel
theorem dX7_init_65 : decode cX7_init 65 = .ok (.putfield 28, 3) := by decide +kernel
theorem dX7_init_68 : decode cX7_init 68 = .ok (.aload_n 0, 1) := by decide +kernel
theorem dX7_init_69 : decode cX7_init 69 = .ok (.bipush 6, 2) := by decide +kernel
theorem dX7_init_71 : decode cX7_init 71 = .ok (.newarray .int, 2) := by decide +kernel
theorem dX7_init_73 : decode cX7_init 73 = .ok (.dup, 1) := by decide +kernel
theorem dX7_init_74 : decode cX7_init 74 = .ok (.iconst 0, 1) := by decide +kernel
theorem dX7_init_75 : decode cX7_init 75 = .ok (.iconst (-1), 1) := by decide +kernel
theorem dX7_init_76 : decode cX7_init 76 = .ok (.iastore, 1) := by decide +kernel
theorem dX7_init_77 : decode cX7_init 77 = .ok (.dup, 1) := by decide +kernel
theorem dX7_init_78 : decode cX7_init 78 = .ok (.iconst 1, 1) := by decide +kernel
theorem dX7_init_79 : decode cX7_init 79 = .ok (.iconst 0, 1) := by decide +kernel
theorem dX7_init_80 : decode cX7_init 80 = .ok (.iastore, 1) := by decide +kernel
theorem dX7_init_81 : decode cX7_init 81 = .ok (.dup, 1) := by decide +kernel
theorem dX7_init_82 : decode cX7_init 82 = .ok (.iconst 2, 1) := by decide +kernel
theorem dX7_init_83 : decode cX7_init 83 = .ok (.iconst 1, 1) := by decide +kernel
theorem dX7_init_84 : decode cX7_init 84 = .ok (.iastore, 1) := by decide +kernel
theorem dX7_init_85 : decode cX7_init 85 = .ok (.dup, 1) := by decide +kernel
theorem dX7_init_86 : decode cX7_init 86 = .ok (.iconst 3, 1) := by decide +kernel
theorem dX7_init_87 : decode cX7_init 87 = .ok (.iconst 2, 1) := by decide +kernel
theorem dX7_init_88 : decode cX7_init 88 = .ok (.iastore, 1) := by decide +kernel
theorem dX7_init_89 : decode cX7_init 89 = .ok (.dup, 1) := by decide +kernel
theorem dX7_init_90 : decode cX7_init 90 = .ok (.iconst 4, 1) := by decide +kernel
theorem dX7_init_91 : decode cX7_init 91 = .ok (.iconst 3, 1) := by decide +kernel
theorem dX7_init_92 : decode cX7_init 92 = .ok (.iastore, 1) := by decide +kernel
theorem dX7_init_93 : decode cX7_init 93 = .ok (.dup, 1) := by decide +kernel
theorem dX7_init_94 : decode cX7_init 94 = .ok (.iconst 5, 1) := by decide +kernel
theorem dX7_init_95 : decode cX7_init 95 = .ok (.iconst 4, 1) := by decide +kernel
theorem dX7_init_96 : decode cX7_init 96 = .ok (.iastore, 1) := by decide +kernel
theorem dX7_init_97 : decode cX7_init 97 = .ok (.putfield 31, 3) := by decide +kernel
theorem dX7_init_100 : decode cX7_init 100 = .ok (.aload_n 0, 1) := by decide +kernel
theorem dX7_init_101 : decode cX7_init 101 = .ok (.iconst 3, 1) := by decide +kernel
theorem dX7_init_102 : decode cX7_init 102 = .ok (.newarray .int, 2) := by decide +kernel
theorem dX7_init_104 : decode cX7_init 104 = .ok (.dup, 1) := by decide +kernel
theorem dX7_init_105 : decode cX7_init 105 = .ok (.iconst 0, 1) := by decide +kernel
theorem dX7_init_106 : decode cX7_init 106 = .ok (.iconst 0, 1) := by decide +kernel
theorem dX7_init_107 : decode cX7_init 107 = .ok (.iastore, 1) := by decide +kernel
theorem dX7_init_108 : decode cX7_init 108 = .ok (.dup, 1) := by decide +kernel
theorem dX7_init_109 : decode cX7_init 109 = .ok (.iconst 1, 1) := by decide +kernel
theorem dX7_init_110 : decode cX7_init 110 = .ok (.iconst 1, 1) := by decide +kernel
theorem dX7_init_111 : decode cX7_init 111 = .ok (.iastore, 1) := by decide +kernel
theorem dX7_init_112 : decode cX7_init 112 = .ok (.dup, 1) := by decide +kernel
theorem dX7_init_113 : decode cX7_init 113 = .ok (.iconst 2, 1) := by decide +kernel
theorem dX7_init_114 : decode cX7_init 114 = .ok (.iconst 0, 1) := by decide +kernel
theorem dX7_init_115 : decode cX7_init 115 = .ok (.iastore, 1) := by decide +kernel
theorem dX7_init_116 : decode cX7_init 116 = .ok (.putfield 34, 3) := by decide +kernel
theorem dX7_init_119 : decode cX7_init 119 = .ok (.aload_n 0, 1) := by decide +kernel
theorem dX7_init_120 : decode cX7_init 120 = .ok (.iconst 0, 1) := by decide +kernel
theorem dX7_init_121 : decode cX7_init 121 = .ok (.putfield 37, 3) := by decide +kernel
theorem dX7_init_124 : decode cX7_init 124 = .ok (.aload_n 0, 1) := by decide +kernel
theorem dX7_init_125 : decode cX7_init 125 = .ok (.bipush 8, 2) := by decide +kernel
theorem dX7_init_127 : decode cX7_init 127 = .ok (.newarray .int, 2) := by decide +kernel
theorem dX7_init_129 : decode cX7_init 129 = .ok (.putfield 40, 3) := by decide +kernel
theorem dX7_init_132 : decode cX7_init 132 = .ok (.aload_n 0, 1) := by decide +kernel
theorem dX7_init_133 : decode cX7_init 133 = .ok (.bipush 8, 2) := by decide +kernel
theorem dX7_init_135 : decode cX7_init 135 = .ok (.newarray .int, 2) := by decide +kernel
theorem dX7_init_137 : decode cX7_init 137 = .ok (.putfield 43, 3) := by decide +kernel
theorem dX7_init_140 : decode cX7_init 140 = .ok (.aload_n 0, 1) := by decide +kernel
theorem dX7_init_141 : decode cX7_init 141 = .ok (.iconst 0, 1) := by decide +kernel
theorem dX7_init_142 : decode cX7_init 142 = .ok (.putfield 46, 3) := by decide +kernel
theorem dX7_init_145 : decode cX7_init 145 = .ok (.aload_n 0, 1) := by decide +kernel
theorem dX7_init_146 : decode cX7_init 146 = .ok (.bipush 6, 2) := by decide +kernel
theorem dX7_init_148 : decode cX7_init 148 = .ok (.anewarray 49, 3) := by decide +kernel
theorem dX7_init_151 : decode cX7_init 151 = .ok (.putfield 51, 3) := by decide +kernel
theorem dX7_init_154 : decode cX7_init 154 = .ok (.aload_n 0, 1) := by decide +kernel
theorem dX7_init_155 : decode cX7_init 155 = .ok (.iconst (-1), 1) := by decide +kernel
theorem dX7_init_156 : decode cX7_init 156 = .ok (.putfield 55, 3) := by decide +kernel
theorem dX7_init_159 : decode cX7_init 159 = .ok (.return_, 1) := by decide +kernel
abbrev mX7_init : zq_M := (cX7_init, RX7, "<init>", none, 1)
theorem dX11_image_0 : decode cX11_image 0 = .ok (.iload_n 1, 1) := by decide +kernel
theorem dX11_image_1 : decode cX11_image 1 = .ok (.ifCond .eq 14, 3) := by decide +kernel
theorem dX11_image_4 : decode cX11_image 4 = .ok (.iload_n 1, 1) := by decide +kernel
theorem dX11_image_5 : decode cX11_image 5 = .ok (.iconst 1, 1) := by decide +kernel
theorem dX11_image_6 : decode cX11_image 6 = .ok (.if_icmp .eq 9, 3) := by decide +kernel
theorem dX11_image_9 : decode cX11_image 9 = .ok (.aload_n 0, 1) := by decide +kernel
theorem dX11_image_10 : decode cX11_image 10 = .ok (.iconst (-1), 1) := by decide +kernel
theorem dX11_image_11 : decode cX11_image 11 = .ok (.invokevirtual 103, 3) := by decide +kernel
theorem dX11_image_14 : decode cX11_image 14 = .ok (.ireturn, 1) := by decide +kernel
theorem dX11_image_15 : decode cX11_image 15 = .ok (.aload_n 0, 1) := by decide +kernel
theorem dX11_image_16 : decode cX11_image 16 = .ok (.getfield 16, 3) := by decide +kernel
theorem dX11_image_19 : decode cX11_image 19 = .ok (.iload_n 1, 1) := by decide +kernel
theorem dX11_image_20 : decode cX11_image 20 = .ok (.aaload, 1) := by decide +kernel
theorem dX11_image_21 : decode cX11_image 21 = .ok (.astore_n 2, 1) := by decide +kernel
theorem dX11_image_22 : decode cX11_image 22 = .ok (.aload_n 2, 1) := by decide +kernel
theorem dX11_image_23 : decode cX11_image 23 = .ok (.ifnonnull 18, 3) := by decide +kernel
theorem dX11_image_26 : decode cX11_image 26 = .ok (.new 9, 3) := by decide +kernel
theorem dX11_image_29 : decode cX11_image 29 = .ok (.dup, 1) := by decide +kernel
theorem dX11_image_30 : decode cX11_image 30 = .ok (.invokespecial 11, 3) := by decide +kernel
theorem dX11_image_33 : decode cX11_image 33 = .ok (.astore_n 2, 1) := by decide +kernel
theorem dX11_image_34 : decode cX11_image 34 = .ok (.aload_n 0, 1) := by decide +kernel
theorem dX11_image_35 : decode cX11_image 35 = .ok (.getfield 16, 3) := by decide +kernel
theorem dX11_image_38 : decode cX11_image 38 = .ok (.iload_n 1, 1) := by decide +kernel
theorem dX11_image_39 : decode cX11_image 39 = .ok (.aload_n 2, 1) := by decide +kernel
theorem dX11_image_40 : decode cX11_image 40 = .ok (.aastore, 1) := by decide +kernel
theorem dX11_image_41 : decode cX11_image 41 = .ok (.aload_n 2, 1) := by decide +kernel
theorem dX11_image_42 : decode cX11_image 42 = .ok (.aload_n 0, 1) := by decide +kernel
theorem dX11_image_43 : decode cX11_image 43 = .ok (.getfield 12, 3) := by decide +kernel
theorem dX11_image_46 : decode cX11_image 46 = .ok (.invokevirtual 196, 3) := by decide +kernel
theorem dX11_image_49 : decode cX11_image 49 = .ok (.aload_n 0, 1) := by decide +kernel
theorem dX11_image_50 : decode cX11_image 50 = .ok (.iconst 0, 1) := by decide +kernel
theorem dX11_image_51 : decode cX11_image 51 = .ok (.invokevirtual 117, 3) := by decide +kernel
theorem dX11_image_54 : decode cX11_image 54 = .ok (.ireturn, 1) := by decide +kernel
abbrev mX11_image : zq_M := (cX11_image, RX11, "image", (some .int), 3)
/-- an object of class ci at B with its own cells behind it -/
def zqi (f : Nat → zq_E) (ci B : Nat) (fs : List Value) (k : Nat) (A : Nat → zq_E) : Nat → zq_E := fun q => if q = B then .inr (ci, fs) else if B < q ∧ q ≤ B + k then A (q - B) else f q
section ZQI
variable {f : Nat → zq_E} {ci B k : Nat} {fs fs' : List Value} {A : Nat → zq_E} {e : zq_E}
theorem zqi_o : zqi f ci B fs k A B = .inr (ci, fs) := if_pos rfl
theorem zqi_c {c : Nat} (h1 : 1 ≤ c) (hk : c ≤ k) : zqi f ci B fs k A (B + c) = A c := by
  unfold zqi
  rw [if_neg (by omega), if_pos (by omega), Nat.add_sub_cancel_left]
theorem zqi_x {q : Nat} (h : q < B ∨ B + k < q) : zqi f ci B fs k A q = f q := by
  unfold zqi
  rw [if_neg (by omega), if_neg (by omega)]
theorem zqi_p : va_up (zqi f ci B fs k A) B (.inr (ci, fs')) = zqi f ci B fs' k A := by
  funext q
  by_cases h : q = B
  · rw [h, va_up_self, zqi_o]
  · rw [va_up_ne _ _ h]
    unfold zqi
    rw [if_neg h, if_neg h]
theorem zqi_n {k' : Nat} (hk : k' = k + 1) : va_up (zqi f ci B fs k A) (B + k') e = zqi f ci B fs k' (va_up A k' e) := by
  subst hk
  funext q
  by_cases h : q = B + (k + 1)
  · rw [h, va_up_self, zqi_c (by omega) (Nat.le_refl _), va_up_self]
  · rw [va_up_ne _ _ h]
    unfold zqi
    by_cases h0 : q = B
    · rw [if_pos h0, if_pos h0]
    · rw [if_neg h0, if_neg h0]
      by_cases h1 : B < q ∧ q ≤ B + k
      · rw [if_pos h1, if_pos (by omega), va_up_ne _ _ (by omega)]
      · rw [if_neg h1, if_neg (by omega)]
theorem zqi_u {c : Nat} (h1 : 1 ≤ c) (hk : c ≤ k) : va_up (zqi f ci B fs k A) (B + c) e = zqi f ci B fs k (va_up A c e) := by
  funext q
  by_cases h : q = B + c
  · rw [h, va_up_self, zqi_c h1 hk, va_up_self]
  · rw [va_up_ne _ _ h]
    unfold zqi
    by_cases h0 : q = B
    · rw [if_pos h0, if_pos h0]
    · rw [if_neg h0, if_neg h0]
      by_cases h2 : B < q ∧ q ≤ B + k
      · rw [if_pos h2, if_pos h2, va_up_ne _ _ (by omega)]
      · rw [if_neg h2, if_neg h2]
theorem zqi_0 (h : f B = .inr (ci, fs)) : zqi f ci B fs 0 A = f := by
  funext q
  by_cases h0 : q = B
  · rw [h0, zqi_o]; exact h.symm
  · exact zqi_x (by omega)
end ZQI
/-- a new quay -/
def zqI0 (j : Nat) : Int32 := if j = 13 then -1 else nI 0
def zqA0 (c j : Nat) : Int32 := if c = 5 then nI (j + 1) else if c = 6 then zlast j else if c = 7 then (if j = 1 then nI 1 else nI 0) else nI 0
section ZK20
variable {l : Launch} {G : zq_G} {D n n' b : Nat} {f : Nat → zq_E} {post : Option Value → Nat → (Nat → zq_E) → Prop}
theorem zc_quayInit {B : Nat} (hD : 1 ≤ D) (hn : n + 8 = B + 1) (hB : f B = .inr (7, [.int 0, .null, .null, .null, .null, .null, .null, .null, .int 0, .null, .null, .int 0, .null, .int 0]))
    (hp : ∀ A, (∀ c j, 1 ≤ c → c ≤ 9 → j < zu_len c → A c j = zqA0 c j) → post none (n + 1 + 1 + 1 + 1 + 1 + 1 + 1 + 1 + 1 + 1) (zu_set f B zqI0 A (fun _ => none))) : zq_Runs l G D 10 92 yX7_init [.ref B] n f post := by
  rw [← zqi_0 (A := fun _ => zq_dead) hB]
  refine zq_enter (cc := cX7_init) (nL := 1) (ret := none) cw_X7_init (by decide) rfl (Nat.le_of_ble_eq_true rfl) ?_
  refine at_aload_n dX7_init_0 rfl ?_
  refine at_objInit dX7_init_1 oi_X7_3 zq_oi zq_oc (Nat.le_of_ble_eq_true rfl) ⟨by show 1 ≤ D; omega, by show 20 ≤ 60 * D; omega⟩ ?_
  refine at_aload_n dX7_init_4 rfl ?_
  refine at_iconst dX7_init_5 (v := nI 0) (by decide) ?_
  refine at_put dX7_init_6 (pl_X7_9 _) zqi_o (Nat.le_of_ble_eq_true rfl) (fun _ => rfl) (fun _ => rfl) ?_
  rw [zqi_p]
  refine at_aload_n dX7_init_9 rfl ?_
  refine at_bipush dX7_init_10 (v := nI 7) (by decide) ?_
  refine at_newa (t := 0) (N := 7) (by decide) dX7_init_12 zq_ai (by decide) (by decide) (by decide) (by show _ + 1 ≤ 10; omega) (by show _ + 7 ≤ 92; omega) ?_
  rw [show n + 8 = B + 1 by omega, zqi_n (show 1 = 0 + 1 from rfl)]
  refine at_put dX7_init_14 pl_X7_15 zqi_o (Nat.le_of_ble_eq_true rfl) (fun _ => rfl) (fun _ => rfl) ?_
  rw [zqi_p]
  refine at_aload_n dX7_init_17 rfl ?_
  refine at_bipush dX7_init_18 (v := nI 7) (by decide) ?_
  refine at_newa (t := 0) (N := 7) (by decide) dX7_init_20 zq_ai (by decide) (by decide) (by decide) (by show _ + 1 ≤ 10; omega) (by show _ + 7 ≤ 92; omega) ?_
  rw [show n + 1 + 8 = B + 2 by omega, zqi_n (show 2 = 1 + 1 from rfl)]
  refine at_put dX7_init_22 pl_X7_19 zqi_o (Nat.le_of_ble_eq_true rfl) (fun _ => rfl) (fun _ => rfl) ?_
  rw [zqi_p]
  refine at_aload_n dX7_init_25 rfl ?_
  refine at_bipush dX7_init_26 (v := nI 7) (by decide) ?_
  refine at_newa (t := 0) (N := 7) (by decide) dX7_init_28 zq_ai (by decide) (by decide) (by decide) (by show _ + 1 ≤ 10; omega) (by show _ + 7 ≤ 92; omega) ?_
  rw [show n + 1 + 1 + 8 = B + 3 by omega, zqi_n (show 3 = 2 + 1 from rfl)]
  refine at_put dX7_init_30 pl_X7_22 zqi_o (Nat.le_of_ble_eq_true rfl) (fun _ => rfl) (fun _ => rfl) ?_
  rw [zqi_p]
  refine at_aload_n dX7_init_33 rfl ?_
  refine at_bipush dX7_init_34 (v := nI 35) (by decide) ?_
  refine at_newa (t := 0) (N := 35) (by decide) dX7_init_36 zq_ai (by decide) (by decide) (by decide) (by show _ + 1 ≤ 10; omega) (by show _ + 35 ≤ 92; omega) ?_
  rw [show n + 1 + 1 + 1 + 8 = B + 4 by omega, zqi_n (show 4 = 3 + 1 from rfl)]
  refine at_put dX7_init_38 pl_X7_25 zqi_o (Nat.le_of_ble_eq_true rfl) (fun _ => rfl) (fun _ => rfl) ?_
  rw [zqi_p]
  refine at_aload_n dX7_init_41 rfl ?_
  refine at_iconst dX7_init_42 (v := nI 5) (by decide) ?_
  refine at_newa (t := 0) (N := 5) (by decide) dX7_init_43 zq_ai (by decide) (by decide) (by decide) (by show _ + 1 ≤ 10; omega) (by show _ + 5 ≤ 92; omega) ?_
  rw [show n + 1 + 1 + 1 + 1 + 8 = B + 5 by omega, zqi_n (show 5 = 4 + 1 from rfl)]
  refine at_dup dX7_init_45 rfl ?_
  refine at_iconst dX7_init_46 (v := nI 0) (by decide) ?_
  refine at_iconst dX7_init_47 (v := nI 1) (by decide) ?_
  refine at_iastN dX7_init_48 ((zqi_c (by decide) (by decide)).trans (va_up_self _ _ _)) (by decide) (j := 0) rfl (by decide) ?_
  rw [zqi_u (by decide) (by decide), zce_up]
  refine at_dup dX7_init_49 rfl ?_
  refine at_iconst dX7_init_50 (v := nI 1) (by decide) ?_
  refine at_iconst dX7_init_51 (v := nI 2) (by decide) ?_
  refine at_iastN dX7_init_52 ((zqi_c (by decide) (by decide)).trans (va_up_self _ _ _)) (by decide) (j := 1) rfl (by decide) ?_
  rw [zqi_u (by decide) (by decide), zce_up]
  refine at_dup dX7_init_53 rfl ?_
  refine at_iconst dX7_init_54 (v := nI 2) (by decide) ?_
  refine at_iconst dX7_init_55 (v := nI 3) (by decide) ?_
  refine at_iastN dX7_init_56 ((zqi_c (by decide) (by decide)).trans (va_up_self _ _ _)) (by decide) (j := 2) rfl (by decide) ?_
  rw [zqi_u (by decide) (by decide), zce_up]
  refine at_dup dX7_init_57 rfl ?_
  refine at_iconst dX7_init_58 (v := nI 3) (by decide) ?_
  refine at_iconst dX7_init_59 (v := nI 4) (by decide) ?_
  refine at_iastN dX7_init_60 ((zqi_c (by decide) (by decide)).trans (va_up_self _ _ _)) (by decide) (j := 3) rfl (by decide) ?_
  rw [zqi_u (by decide) (by decide), zce_up]
  refine at_dup dX7_init_61 rfl ?_
  refine at_iconst dX7_init_62 (v := nI 4) (by decide) ?_
  refine at_iconst dX7_init_63 (v := nI 5) (by decide) ?_
  refine at_iastN dX7_init_64 ((zqi_c (by decide) (by decide)).trans (va_up_self _ _ _)) (by decide) (j := 4) rfl (by decide) ?_
  rw [zqi_u (by decide) (by decide), zce_up]
  refine at_put dX7_init_65 pl_X7_28 zqi_o (Nat.le_of_ble_eq_true rfl) (fun _ => rfl) (fun _ => rfl) ?_
  rw [zqi_p]
  refine at_aload_n dX7_init_68 rfl ?_
  refine at_bipush dX7_init_69 (v := nI 6) (by decide) ?_
  refine at_newa (t := 0) (N := 6) (by decide) dX7_init_71 zq_ai (by decide) (by decide) (by decide) (by show _ + 1 ≤ 10; omega) (by show _ + 6 ≤ 92; omega) ?_
  rw [show n + 1 + 1 + 1 + 1 + 1 + 8 = B + 6 by omega, zqi_n (show 6 = 5 + 1 from rfl)]
  refine at_dup dX7_init_73 rfl ?_
  refine at_iconst dX7_init_74 (v := nI 0) (by decide) ?_
  refine at_iconst dX7_init_75 (v := -1) rfl ?_
  refine at_iastN dX7_init_76 ((zqi_c (by decide) (by decide)).trans (va_up_self _ _ _)) (by decide) (j := 0) rfl (by decide) ?_
  rw [zqi_u (by decide) (by decide), zce_up]
  refine at_dup dX7_init_77 rfl ?_
  refine at_iconst dX7_init_78 (v := nI 1) (by decide) ?_
  refine at_iconst dX7_init_79 (v := nI 0) (by decide) ?_
  refine at_iastN dX7_init_80 ((zqi_c (by decide) (by decide)).trans (va_up_self _ _ _)) (by decide) (j := 1) rfl (by decide) ?_
  rw [zqi_u (by decide) (by decide), zce_up]
  refine at_dup dX7_init_81 rfl ?_
  refine at_iconst dX7_init_82 (v := nI 2) (by decide) ?_
  refine at_iconst dX7_init_83 (v := nI 1) (by decide) ?_
  refine at_iastN dX7_init_84 ((zqi_c (by decide) (by decide)).trans (va_up_self _ _ _)) (by decide) (j := 2) rfl (by decide) ?_
  rw [zqi_u (by decide) (by decide), zce_up]
  refine at_dup dX7_init_85 rfl ?_
  refine at_iconst dX7_init_86 (v := nI 3) (by decide) ?_
  refine at_iconst dX7_init_87 (v := nI 2) (by decide) ?_
  refine at_iastN dX7_init_88 ((zqi_c (by decide) (by decide)).trans (va_up_self _ _ _)) (by decide) (j := 3) rfl (by decide) ?_
  rw [zqi_u (by decide) (by decide), zce_up]
  refine at_dup dX7_init_89 rfl ?_
  refine at_iconst dX7_init_90 (v := nI 4) (by decide) ?_
  refine at_iconst dX7_init_91 (v := nI 3) (by decide) ?_
  refine at_iastN dX7_init_92 ((zqi_c (by decide) (by decide)).trans (va_up_self _ _ _)) (by decide) (j := 4) rfl (by decide) ?_
  rw [zqi_u (by decide) (by decide), zce_up]
  refine at_dup dX7_init_93 rfl ?_
  refine at_iconst dX7_init_94 (v := nI 5) (by decide) ?_
  refine at_iconst dX7_init_95 (v := nI 4) (by decide) ?_
  refine at_iastN dX7_init_96 ((zqi_c (by decide) (by decide)).trans (va_up_self _ _ _)) (by decide) (j := 5) rfl (by decide) ?_
  rw [zqi_u (by decide) (by decide), zce_up]
  refine at_put dX7_init_97 pl_X7_31 zqi_o (Nat.le_of_ble_eq_true rfl) (fun _ => rfl) (fun _ => rfl) ?_
  rw [zqi_p]
  refine at_aload_n dX7_init_100 rfl ?_
  refine at_iconst dX7_init_101 (v := nI 3) (by decide) ?_
  refine at_newa (t := 0) (N := 3) (by decide) dX7_init_102 zq_ai (by decide) (by decide) (by decide) (by show _ + 1 ≤ 10; omega) (by show _ + 3 ≤ 92; omega) ?_
  rw [show n + 1 + 1 + 1 + 1 + 1 + 1 + 8 = B + 7 by omega, zqi_n (show 7 = 6 + 1 from rfl)]
  refine at_dup dX7_init_104 rfl ?_
  refine at_iconst dX7_init_105 (v := nI 0) (by decide) ?_
  refine at_iconst dX7_init_106 (v := nI 0) (by decide) ?_
  refine at_iastN dX7_init_107 ((zqi_c (by decide) (by decide)).trans (va_up_self _ _ _)) (by decide) (j := 0) rfl (by decide) ?_
  rw [zqi_u (by decide) (by decide), zce_up]
  refine at_dup dX7_init_108 rfl ?_
  refine at_iconst dX7_init_109 (v := nI 1) (by decide) ?_
  refine at_iconst dX7_init_110 (v := nI 1) (by decide) ?_
  refine at_iastN dX7_init_111 ((zqi_c (by decide) (by decide)).trans (va_up_self _ _ _)) (by decide) (j := 1) rfl (by decide) ?_
  rw [zqi_u (by decide) (by decide), zce_up]
  refine at_dup dX7_init_112 rfl ?_
  refine at_iconst dX7_init_113 (v := nI 2) (by decide) ?_
  refine at_iconst dX7_init_114 (v := nI 0) (by decide) ?_
  refine at_iastN dX7_init_115 ((zqi_c (by decide) (by decide)).trans (va_up_self _ _ _)) (by decide) (j := 2) rfl (by decide) ?_
  rw [zqi_u (by decide) (by decide), zce_up]
  refine at_put dX7_init_116 pl_X7_34 zqi_o (Nat.le_of_ble_eq_true rfl) (fun _ => rfl) (fun _ => rfl) ?_
  rw [zqi_p]
  refine at_aload_n dX7_init_119 rfl ?_
  refine at_iconst dX7_init_120 (v := nI 0) (by decide) ?_
  refine at_put dX7_init_121 (pl_X7_37 _) zqi_o (Nat.le_of_ble_eq_true rfl) (fun _ => rfl) (fun _ => rfl) ?_
  rw [zqi_p]
  refine at_aload_n dX7_init_124 rfl ?_
  refine at_bipush dX7_init_125 (v := nI 8) (by decide) ?_
  refine at_newa (t := 0) (N := 8) (by decide) dX7_init_127 zq_ai (by decide) (by decide) (by decide) (by show _ + 1 ≤ 10; omega) (by show _ + 8 ≤ 92; omega) ?_
  rw [show n + 1 + 1 + 1 + 1 + 1 + 1 + 1 + 8 = B + 8 by omega, zqi_n (show 8 = 7 + 1 from rfl)]
  refine at_put dX7_init_129 pl_X7_40 zqi_o (Nat.le_of_ble_eq_true rfl) (fun _ => rfl) (fun _ => rfl) ?_
  rw [zqi_p]
  refine at_aload_n dX7_init_132 rfl ?_
  refine at_bipush dX7_init_133 (v := nI 8) (by decide) ?_
  refine at_newa (t := 0) (N := 8) (by decide) dX7_init_135 zq_ai (by decide) (by decide) (by decide) (by show _ + 1 ≤ 10; omega) (by show _ + 8 ≤ 92; omega) ?_
  rw [show n + 1 + 1 + 1 + 1 + 1 + 1 + 1 + 1 + 8 = B + 9 by omega, zqi_n (show 9 = 8 + 1 from rfl)]
  refine at_put dX7_init_137 pl_X7_43 zqi_o (Nat.le_of_ble_eq_true rfl) (fun _ => rfl) (fun _ => rfl) ?_
  rw [zqi_p]
  refine at_aload_n dX7_init_140 rfl ?_
  refine at_iconst dX7_init_141 (v := nI 0) (by decide) ?_
  refine at_put dX7_init_142 (pl_X7_46 _) zqi_o (Nat.le_of_ble_eq_true rfl) (fun _ => rfl) (fun _ => rfl) ?_
  rw [zqi_p]
  refine at_aload_n dX7_init_145 rfl ?_
  refine at_bipush dX7_init_146 (v := nI 6) (by decide) ?_
  refine at_anew (t := 6) (N := 6) dX7_init_148 (fun _ => rfl) (fun G s h => h.2.2.2.2.2.2.2.2.2.2.2.1) cl_X7_49 (by decide) (by decide) (by decide) (by show _ + 1 ≤ 10; omega) (by show _ + 6 ≤ 92; omega) ?_
  rw [show n + 1 + 1 + 1 + 1 + 1 + 1 + 1 + 1 + 1 + 8 = B + 10 by omega, zqi_n (show 10 = 9 + 1 from rfl)]
  refine at_put dX7_init_151 pl_X7_51 zqi_o (Nat.le_of_ble_eq_true rfl) (fun _ => rfl) (fun _ => rfl) ?_
  rw [zqi_p]
  refine at_aload_n dX7_init_154 rfl ?_
  refine at_iconst dX7_init_155 (v := -1) rfl ?_
  refine at_put dX7_init_156 (pl_X7_55 _) zqi_o (Nat.le_of_ble_eq_true rfl) (fun _ => rfl) (fun _ => rfl) ?_
  rw [zqi_p]
  refine at_vret dX7_init_159 rfl (by omega) (by omega) ?_
  generalize hA : va_up (va_up (va_up (va_up (va_up (va_up (va_up (va_up (va_up (va_up (fun _ => zq_dead) 1 _) 2 _) 3 _) 4 _) 5 _) 6 _) 7 _) 8 _) 9 _) 10 _ = AA
  refine Eq.mp (congrArg (post none _) ?_) (hp (fun c => if c = 5 then upd (upd (upd (upd (upd (fun _ => 0) 0 (nI 1)) 1 (nI 2)) 2 (nI 3)) 3 (nI 4)) 4 (nI 5) else if c = 6 then upd (upd (upd (upd (upd (upd (fun _ => 0) 0 (-1)) 1 (nI 0)) 2 (nI 1)) 3 (nI 2)) 4 (nI 3)) 5 (nI 4) else if c = 7 then upd (upd (upd (fun _ => 0) 0 (nI 0)) 1 (nI 1)) 2 (nI 0) else fun _ => 0) (fun c j c1 c9 hj => ?_))
  · funext q
    subst hA
    by_cases h0 : q = B
    · rw [h0, zus_o, zqi_o]; rfl
    · by_cases h1 : q = B + 10
      · rw [h1, zus_t, zqi_c (by decide) (by decide), va_up_self]
      · by_cases h2 : B < q ∧ q < B + 10
        · obtain ⟨c, rfl⟩ : ∃ c, q = B + c := ⟨q - B, by omega⟩
          rw [zus_a (by omega) (by omega), zqi_c (by omega) (by omega)]
          rcases (show c = 1 ∨ c = 2 ∨ c = 3 ∨ c = 4 ∨ c = 5 ∨ c = 6 ∨ c = 7 ∨ c = 8 ∨ c = 9 by omega) with rfl | rfl | rfl | rfl | rfl | rfl | rfl | rfl | rfl <;> rfl
        · rw [zus_x (by omega), zqi_x (by omega)]
  · rcases (show c = 1 ∨ c = 2 ∨ c = 3 ∨ c = 4 ∨ c = 5 ∨ c = 6 ∨ c = 7 ∨ c = 8 ∨ c = 9 by omega) with rfl | rfl | rfl | rfl | rfl | rfl | rfl | rfl | rfl
    · rfl
    · rfl
    · rfl
    · rfl
    · have hj : j < 5 := hj
      rcases (show j = 0 ∨ j = 1 ∨ j = 2 ∨ j = 3 ∨ j = 4 by omega) with rfl | rfl | rfl | rfl | rfl <;> rfl
    · have hj : j < 6 := hj
      rcases (show j = 0 ∨ j = 1 ∨ j = 2 ∨ j = 3 ∨ j = 4 ∨ j = 5 by omega) with rfl | rfl | rfl | rfl | rfl | rfl <;> rfl
    · have hj : j < 3 := hj
      rcases (show j = 0 ∨ j = 1 ∨ j = 2 by omega) with rfl | rfl | rfl <;> rfl
    · rfl
    · rfl
end ZK20

