/-! ===== the Model reckons sums ===== -/
section ZL22a
variable {w : Nat → Nat → Int}
/-- one more step of a row: what was reckoned ahead, what comes behind the sign -/
theorem zst_cases {lv b : Bool} {a t : zX} {Q : Prop} (h0 : (lv = false ∨ b = true) → Q) (h1 : lv = true → b = false → a w = none → Q) (h2 : ∀ x, lv = true → b = false → a w = some x → t w = none → Q) (h3 : ∀ x y, lv = true → b = false → a w = some x → t w = some y → Q) : Q := by
  cases lv with
  | false => exact h0 (Or.inl rfl)
  | true =>
    cases b with
    | true => exact h0 (Or.inr rfl)
    | false =>
      cases ha : a w with
      | none => exact h1 rfl rfl ha
      | some x =>
        cases ht : t w with
        | none => exact h2 x rfl rfl ha ht
        | some y => exact h3 x y rfl rfl ha ht
theorem zvl_0 {lv b : Bool} (h : lv = false ∨ b = true) (e : zX) : zvl w lv b e = 0 := by
  unfold zvl
  rw [if_neg (by rcases h with rfl | rfl <;> simp)]
theorem zbs_0 {lv b : Bool} (h : lv = false ∨ b = true) (e : zX) : zbs w lv b e = b := by
  unfold zbs
  rcases h with rfl | rfl <;> simp
theorem zvl_s {e : zX} {x : Int} (h : e w = some x) : zvl w true false e = x := by
  unfold zvl
  rw [h]; rfl
theorem zbs_s {e : zX} {x : Int} (h : e w = some x) : zbs w true false e = false := by
  unfold zbs
  rw [h]; rfl
theorem zvl_n {e : zX} (h : e w = none) : zvl w true false e = 0 := by
  unfold zvl
  rw [h]; rfl
theorem zbs_n {e : zX} (h : e w = none) : zbs w true false e = true := by
  unfold zbs
  rw [h]; rfl
theorem zx_op_n {o : Nat} {a t : zX} (h : a w = none) : zx_op o a t w = none := by unfold zx_op; rw [h]; rfl
theorem zx_op_n2 {o : Nat} {a t : zX} {x : Int} (h : a w = some x) (h2 : t w = none) : zx_op o a t w = none := by unfold zx_op; rw [h, h2]; rfl
theorem zx_op_s {o : Nat} {a t : zX} {x y : Int} (h : a w = some x) (h2 : t w = some y) : zx_op o a t w = zop o x y := by unfold zx_op; rw [h, h2]; rfl
theorem zrng_0 : zrng 0 = false := by decide
theorem zrng_f {x : Int} (h : -1000000000 ≤ x ∧ x ≤ 1000000000) : zrng x = false := decide_eq_false (by omega)
theorem zbd_s {x : Int} (h : zrng x = false) : zbd x = some x := by
  unfold zbd
  have := of_decide_eq_false h
  rw [if_neg this]
theorem zbd_n {x : Int} (h : zrng x = true) : zbd x = none := by
  unfold zbd
  have := of_decide_eq_true h
  rw [if_pos this]
/-- a step by a sign whose outcome is only bounded -/
theorem zst_go {s : Nat} {f : Int → Int → Int} (hf0 : f 0 0 = 0) (hfx : ∀ x, (-1000000000 ≤ x ∧ x ≤ 1000000000) → -1000000000 ≤ f x 0 ∧ f x 0 ≤ 1000000000) (hz : ∀ x y, (-1000000000 ≤ x ∧ x ≤ 1000000000) → zop s x y = zbd (f x y)) {lv b : Bool} {a t : zX} (ha : zBe w a) :
    (zbs w lv (zbs w lv b a) t || (lv && zrng (f (zvl w lv b a) (zvl w lv (zbs w lv b a) t)))) = zbs w lv b (zx_op s a t) ∧
    (if (zbs w lv (zbs w lv b a) t || (lv && zrng (f (zvl w lv b a) (zvl w lv (zbs w lv b a) t)))) = true then 0 else f (zvl w lv b a) (zvl w lv (zbs w lv b a) t)) = zvl w lv b (zx_op s a t) := by
  refine zst_cases (w := w) (lv := lv) (b := b) (a := a) (t := t) (fun h => ?_) (fun h1 h2 h3 => ?_) (fun x h1 h2 h3 h4 => ?_) (fun x y h1 h2 h3 h4 => ?_)
  · rw [zbs_0 h, zbs_0 h, zbs_0 h, zvl_0 h, zvl_0 h, zvl_0 h, hf0, zrng_0]
    cases b <;> simp
  · subst h1; subst h2
    rw [zbs_n h3, zbs_0 (Or.inr rfl), zbs_n (zx_op_n h3), zvl_n (zx_op_n h3)]
    simp
  · subst h1; subst h2
    rw [zbs_s h3, zbs_n h4, zbs_n (zx_op_n2 h3 h4), zvl_n (zx_op_n2 h3 h4)]
    simp
  · subst h1; subst h2
    rw [zbs_s h3, zbs_s h4, zvl_s h3, zvl_s h4]
    have e := (zx_op_s (o := s) h3 h4).trans (hz x y (ha x h3))
    cases hr : zrng (f x y) with
    | true =>
      rw [zbd_n hr] at e
      rw [zbs_n e, zvl_n e]
      simp
    | false =>
      rw [zbd_s hr] at e
      rw [zbs_s e, zvl_s e]
      simp
end ZL22a
section ZL22
variable {l : Launch} {G : zq_G} {n B E : Nat} {cd vl : Nat → Nat} {o : Bool} {w : Nat → Nat → Int} {σ : zm_S} {ρ : Nat → zq_E}
/-- method y reckons what P tells -/
def zHV (l : Launch) (G : zq_G) (n B : Nat) (w : Nat → Nat → Int) (σ : zm_S) (ρ : Nat → zq_E) (D : Nat) (y : MethodName) (P : zX → Nat → Nat → Prop) : Prop := ∀ (e : zX) (i j : Nat) (lv b : Bool) (post : Option Value → Nat → (Nat → zq_E) → Prop), P e i j →
  post (some (.long (zL (zvl w lv b e)))) n (zm_h (zg σ (B + j) (zbs w lv b e)) ρ) → zq_Runs l G D 0 0 y [.ref 70, .int (zb lv)] n (zm_h (zg σ (B + i) b) ρ) post
theorem zvl_b {lv b : Bool} {e : zX} (h : zBe w e) : -1000000000 ≤ zvl w lv b e ∧ zvl w lv b e ≤ 1000000000 := by
  unfold zvl
  split
  · cases he : e w with
    | none => show -1000000000 ≤ (0 : Int) ∧ (0 : Int) ≤ 1000000000; omega
    | some x => exact h x he
  · omega
theorem zop_add {x y : Int} : zop 143 x y = zbd (x + y) := rfl
theorem zop_sub {x y : Int} : zop 145 x y = zbd (x - y) := rfl
theorem zop_mul {x y : Int} : zop 142 x y = zbd (x * y) := rfl
theorem zm_sumOf_loop {D : Nat} {P : zX → Nat → Nat → Prop} {lv b : Bool} {post : Option Value → Nat → (Nat → zq_E) → Prop} (hD : 2 ≤ D) (hR : zRun σ B E cd vl o) (hI : zIn E P) (hB : zBn w P) (HP : zHV l G n B w σ ρ (D - 1) yX12_termOf P) : ∀ (f : Nat) (a e : zX) (j k : Nat), zTL cd [143, 145] zx_op P f a j e k → j ≤ E → zBe w a →
    post (some (.long (zL (zvl w lv b e)))) n (zm_h (zg σ (B + k) (zbs w lv b e)) ρ) → zq_At l G (zq_rm D 0 0) mX12_sumOf (zq_QF G post 0 0) 6 [(0, .ref 70), (1, .int (zb lv)), (2, .long (zL (zvl w lv b a)))] [] n (zm_h (zg σ (B + j) (zbs w lv b a)) ρ) 0 0 := by
  have hE := hR.2.2.1
  intro f
  induction f with
  | zero => intro a e j k h; exact h.elim
  | succ f ih =>
    intro a e j k h hj ha hp
    have h5 := hR.2.2.2.2.1 j
    rcases h with ⟨h, rfl, rfl⟩ | ⟨hm, t, m, ht, h⟩
    · have n1 : cd k ≠ 143 := fun c => h (by simp [c])
      have n2 : cd k ≠ 145 := fun c => h (by simp [c])
      refine at_aload_n dX12_sumOf_6 rfl ?_
      refine at_aload_n dX12_sumOf_7 rfl ?_
      refine at_get dX12_sumOf_8 fl_X12_286 rfl rfl ?_
      rw [zg_23]
      refine at_callV1 (d := D - 1) dX12_sumOf_11 mv_X12_289 rfl (Nat.le_of_ble_eq_true rfl) (zq_r0 (by omega) (by omega) (by omega)) ?_
      refine zm_codeAt hR (by omega) ?_
      refine at_bipush dX12_sumOf_14 (v := nI 43) (by decide) ?_
      refine at_callS1 (d := D - 1) dX12_sumOf_16 ms_X12_245 (Nat.le_of_ble_eq_true rfl) (zq_r0 (by omega) (by omega) (by omega)) ?_
      refine zm_sign ?_
      refine at_eqN (tgt := 38) dX12_sumOf_19 (by decide) (by omega) (by omega) (fun c19 => ?_) (fun c19 => ?_)
      · omega
      · refine at_aload_n dX12_sumOf_22 rfl ?_
        refine at_aload_n dX12_sumOf_23 rfl ?_
        refine at_get dX12_sumOf_24 fl_X12_286 rfl rfl ?_
        rw [zg_23]
        refine at_callV1 (d := D - 1) dX12_sumOf_27 mv_X12_289 rfl (Nat.le_of_ble_eq_true rfl) (zq_r0 (by omega) (by omega) (by omega)) ?_
        refine zm_codeAt hR (by omega) ?_
        refine at_bipush dX12_sumOf_30 (v := nI 45) (by decide) ?_
        refine at_callS1 (d := D - 1) dX12_sumOf_32 ms_X12_245 (Nat.le_of_ble_eq_true rfl) (zq_r0 (by omega) (by omega) (by omega)) ?_
        refine zm_sign ?_
        refine at_neN (tgt := 103) dX12_sumOf_35 (by decide) (by omega) (by omega) (fun c35 => ?_) (fun c35 => ?_)
        · refine at_lload_n dX12_sumOf_103 rfl ?_
          refine at_lret dX12_sumOf_104 rfl (by omega) (by omega) ?_
          exact hp
        · omega
    · have hin := hI _ _ _ ht
      have hbt := hB _ _ _ ht
      have hva := zvl_b (w := w) (lv := lv) (b := b) ha
      have hvt := zvl_b (w := w) (lv := lv) (b := zbs w lv b a) hbt
      have hnx := ih _ e m k h hin.2 (zBe_op ha) hp
      rcases (show cd j = 143 ∨ cd j = 145 by simpa using hm) with hs | hs
      · have g := zst_go (w := w) (s := 143) (f := fun x y => x + y) (by decide) (fun x hx => by show _ ≤ x + 0 ∧ x + 0 ≤ _; omega) (fun x y _ => zop_add) (lv := lv) (b := b) (a := a) (t := t) ha
        rw [hs] at hnx
        rw [← g.1, ← g.2] at hnx
        refine at_aload_n dX12_sumOf_6 rfl ?_
        refine at_aload_n dX12_sumOf_7 rfl ?_
        refine at_get dX12_sumOf_8 fl_X12_286 rfl rfl ?_
        rw [zg_23]
        refine at_callV1 (d := D - 1) dX12_sumOf_11 mv_X12_289 rfl (Nat.le_of_ble_eq_true rfl) (zq_r0 (by omega) (by omega) (by omega)) ?_
        refine zm_codeAt hR (by omega) ?_
        refine at_bipush dX12_sumOf_14 (v := nI 43) (by decide) ?_
        refine at_callS1 (d := D - 1) dX12_sumOf_16 ms_X12_245 (Nat.le_of_ble_eq_true rfl) (zq_r0 (by omega) (by omega) (by omega)) ?_
        refine zm_sign ?_
        refine at_eqN (tgt := 38) dX12_sumOf_19 (by decide) (by omega) (by omega) (fun c19 => ?_) (fun c19 => ?_)
        · refine at_aload_n dX12_sumOf_38 rfl ?_
          refine at_aload_n dX12_sumOf_39 rfl ?_
          refine at_get dX12_sumOf_40 fl_X12_286 rfl rfl ?_
          rw [zg_23]
          refine at_callV1 (d := D - 1) dX12_sumOf_43 mv_X12_289 rfl (Nat.le_of_ble_eq_true rfl) (zq_r0 (by omega) (by omega) (by omega)) ?_
          refine zm_codeAt hR (by omega) ?_
          refine at_bipush dX12_sumOf_46 (v := nI 43) (by decide) ?_
          refine at_callS1 (d := D - 1) dX12_sumOf_48 ms_X12_245 (Nat.le_of_ble_eq_true rfl) (zq_r0 (by omega) (by omega) (by omega)) ?_
          refine zm_sign ?_
          refine at_neN (tgt := 58) dX12_sumOf_51 (by decide) (by omega) (by omega) (fun c51 => ?_) (fun c51 => ?_)
          · omega
          · refine at_iconst dX12_sumOf_54 (v := nI 1) (by decide) ?_
            refine at_goto (tgt := 59) dX12_sumOf_55 (by decide) ?_
            refine at_istore dX12_sumOf_59 (by decide) ?_
            refine at_aload_n dX12_sumOf_61 rfl ?_
            refine at_dup dX12_sumOf_62 rfl ?_
            refine at_get dX12_sumOf_63 fl_X12_286 rfl rfl ?_
            rw [zg_23]
            refine at_iconst dX12_sumOf_66 (v := nI 1) (by decide) ?_
            refine at_iaddN dX12_sumOf_67 ?_
            refine at_mput dX12_sumOf_68 (pl_X12_286 _) (fun _ => ⟨_, rfl⟩) rfl rfl ?_
            rw [zg_s23, Nat.add_assoc]
            refine at_aload_n dX12_sumOf_71 rfl ?_
            refine at_iload_n dX12_sumOf_72 rfl ?_
            refine at_callV1 (d := D - 1) dX12_sumOf_73 mv_X12_299 rfl (Nat.le_of_ble_eq_true rfl) (zq_r0 (by omega) (by omega) (by omega)) ?_
            refine HP t (j + 1) m lv _ _ ht ?_
            refine at_lstore dX12_sumOf_76 (by decide) ?_
            refine at_aload_n dX12_sumOf_78 rfl ?_
            refine at_iload dX12_sumOf_79 rfl ?_
            refine at_if_eqN (tgt := 91) dX12_sumOf_81 (by decide) (by omega) (fun c81 => ?_) (fun c81 => ?_)
            · omega
            · refine at_lload_n dX12_sumOf_84 rfl ?_
              refine at_lload dX12_sumOf_85 rfl ?_
              refine at_ladd dX12_sumOf_87 ?_
              rw [zL_add]
              refine at_goto (tgt := 95) dX12_sumOf_88 (by decide) ?_
              refine at_iload_n dX12_sumOf_95 rfl ?_
              refine at_callV2 (d := D - 1) dX12_sumOf_96 mv_X12_303 rfl (Nat.le_of_ble_eq_true rfl) (zq_r0 (by omega) (by omega) (by omega)) ?_
              refine zm_bounded (by omega) (by omega) ?_
              refine at_lstore_n dX12_sumOf_99 rfl (by decide) ?_
              refine at_goto (tgt := 6) dX12_sumOf_100 (by decide) ?_
              refine at_lv [0, 1, 2] ?_; exact hnx
        · omega
      · have g := zst_go (w := w) (s := 145) (f := fun x y => x - y) (by decide) (fun x hx => by show _ ≤ x - 0 ∧ x - 0 ≤ _; omega) (fun x y _ => zop_sub) (lv := lv) (b := b) (a := a) (t := t) ha
        rw [hs] at hnx
        rw [← g.1, ← g.2] at hnx
        refine at_aload_n dX12_sumOf_6 rfl ?_
        refine at_aload_n dX12_sumOf_7 rfl ?_
        refine at_get dX12_sumOf_8 fl_X12_286 rfl rfl ?_
        rw [zg_23]
        refine at_callV1 (d := D - 1) dX12_sumOf_11 mv_X12_289 rfl (Nat.le_of_ble_eq_true rfl) (zq_r0 (by omega) (by omega) (by omega)) ?_
        refine zm_codeAt hR (by omega) ?_
        refine at_bipush dX12_sumOf_14 (v := nI 43) (by decide) ?_
        refine at_callS1 (d := D - 1) dX12_sumOf_16 ms_X12_245 (Nat.le_of_ble_eq_true rfl) (zq_r0 (by omega) (by omega) (by omega)) ?_
        refine zm_sign ?_
        refine at_eqN (tgt := 38) dX12_sumOf_19 (by decide) (by omega) (by omega) (fun c19 => ?_) (fun c19 => ?_)
        · omega
        · refine at_aload_n dX12_sumOf_22 rfl ?_
          refine at_aload_n dX12_sumOf_23 rfl ?_
          refine at_get dX12_sumOf_24 fl_X12_286 rfl rfl ?_
          rw [zg_23]
          refine at_callV1 (d := D - 1) dX12_sumOf_27 mv_X12_289 rfl (Nat.le_of_ble_eq_true rfl) (zq_r0 (by omega) (by omega) (by omega)) ?_
          refine zm_codeAt hR (by omega) ?_
          refine at_bipush dX12_sumOf_30 (v := nI 45) (by decide) ?_
          refine at_callS1 (d := D - 1) dX12_sumOf_32 ms_X12_245 (Nat.le_of_ble_eq_true rfl) (zq_r0 (by omega) (by omega) (by omega)) ?_
          refine zm_sign ?_
          refine at_neN (tgt := 103) dX12_sumOf_35 (by decide) (by omega) (by omega) (fun c35 => ?_) (fun c35 => ?_)
          · omega
          · refine at_aload_n dX12_sumOf_38 rfl ?_
            refine at_aload_n dX12_sumOf_39 rfl ?_
            refine at_get dX12_sumOf_40 fl_X12_286 rfl rfl ?_
            rw [zg_23]
            refine at_callV1 (d := D - 1) dX12_sumOf_43 mv_X12_289 rfl (Nat.le_of_ble_eq_true rfl) (zq_r0 (by omega) (by omega) (by omega)) ?_
            refine zm_codeAt hR (by omega) ?_
            refine at_bipush dX12_sumOf_46 (v := nI 43) (by decide) ?_
            refine at_callS1 (d := D - 1) dX12_sumOf_48 ms_X12_245 (Nat.le_of_ble_eq_true rfl) (zq_r0 (by omega) (by omega) (by omega)) ?_
            refine zm_sign ?_
            refine at_neN (tgt := 58) dX12_sumOf_51 (by decide) (by omega) (by omega) (fun c51 => ?_) (fun c51 => ?_)
            · refine at_iconst dX12_sumOf_58 (v := nI 0) (by decide) ?_
              refine at_istore dX12_sumOf_59 (by decide) ?_
              refine at_aload_n dX12_sumOf_61 rfl ?_
              refine at_dup dX12_sumOf_62 rfl ?_
              refine at_get dX12_sumOf_63 fl_X12_286 rfl rfl ?_
              rw [zg_23]
              refine at_iconst dX12_sumOf_66 (v := nI 1) (by decide) ?_
              refine at_iaddN dX12_sumOf_67 ?_
              refine at_mput dX12_sumOf_68 (pl_X12_286 _) (fun _ => ⟨_, rfl⟩) rfl rfl ?_
              rw [zg_s23, Nat.add_assoc]
              refine at_aload_n dX12_sumOf_71 rfl ?_
              refine at_iload_n dX12_sumOf_72 rfl ?_
              refine at_callV1 (d := D - 1) dX12_sumOf_73 mv_X12_299 rfl (Nat.le_of_ble_eq_true rfl) (zq_r0 (by omega) (by omega) (by omega)) ?_
              refine HP t (j + 1) m lv _ _ ht ?_
              refine at_lstore dX12_sumOf_76 (by decide) ?_
              refine at_aload_n dX12_sumOf_78 rfl ?_
              refine at_iload dX12_sumOf_79 rfl ?_
              refine at_if_eqN (tgt := 91) dX12_sumOf_81 (by decide) (by omega) (fun c81 => ?_) (fun c81 => ?_)
              · refine at_lload_n dX12_sumOf_91 rfl ?_
                refine at_lload dX12_sumOf_92 rfl ?_
                refine at_lsub dX12_sumOf_94 ?_
                rw [zL_sub]
                refine at_iload_n dX12_sumOf_95 rfl ?_
                refine at_callV2 (d := D - 1) dX12_sumOf_96 mv_X12_303 rfl (Nat.le_of_ble_eq_true rfl) (zq_r0 (by omega) (by omega) (by omega)) ?_
                refine zm_bounded (by omega) (by omega) ?_
                refine at_lstore_n dX12_sumOf_99 rfl (by decide) ?_
                refine at_goto (tgt := 6) dX12_sumOf_100 (by decide) ?_
                refine at_lv [0, 1, 2] ?_; exact hnx
              · omega
            · omega
theorem zm_sumOf {D : Nat} {P : zX → Nat → Nat → Prop} (hD : 2 ≤ D) (hR : zRun σ B E cd vl o) (hI : zIn E P) (hB : zBn w P) (HP : zHV l G n B w σ ρ (D - 1) yX12_termOf P) : zHV l G n B w σ ρ D yX12_sumOf (zSqL cd [143, 145] zx_op P) := by
  rintro e i j lv b post ⟨f, a, k, h1, h2⟩ hp
  refine zq_enter (cc := cX12_sumOf) (nL := 7) (ret := (some .long)) cw_X12_sumOf (by decide) rfl (Nat.le_of_ble_eq_true rfl) ?_
  refine at_aload_n dX12_sumOf_0 rfl ?_
  refine at_iload_n dX12_sumOf_1 rfl ?_
  refine at_callV1 (d := D - 1) dX12_sumOf_2 mv_X12_299 rfl (Nat.le_of_ble_eq_true rfl) (zq_r0 (by omega) (by omega) (by omega)) ?_
  refine HP a i k lv b _ h1 ?_
  refine at_lstore_n dX12_sumOf_5 rfl (by decide) ?_
  exact zm_sumOf_loop hD hR hI hB HP f a e k j h2 (hI _ _ _ h1).2 (hB _ _ _ h1) hp
theorem zmul_b {x y : Int} (hx : -1000000000 ≤ x ∧ x ≤ 1000000000) (hy : -1000000000 ≤ y ∧ y ≤ 1000000000) : -2000000000000000000 ≤ x * y ∧ x * y ≤ 2000000000000000000 := by
  have h : (x * y).natAbs ≤ 1000000000 * 1000000000 := by
    rw [Int.natAbs_mul]
    exact Nat.mul_le_mul (by omega) (by omega)
  omega
theorem ztd_b {x y : Int} (hx : -1000000000 ≤ x ∧ x ≤ 1000000000) : -1000000000 ≤ x.tdiv y ∧ x.tdiv y ≤ 1000000000 := by
  have h1 := Int.natAbs_tdiv_le_natAbs x y
  omega
theorem ztm_b {x y : Int} (hx : -1000000000 ≤ x ∧ x ≤ 1000000000) : -1000000000 ≤ x.tmod y ∧ x.tmod y ≤ 1000000000 := by
  have h1 : (x.tmod y).natAbs ≤ x.natAbs := by rw [Int.natAbs_tmod]; exact Nat.mod_le _ _
  omega
theorem zop_div {x y : Int} : zop 147 x y = if y = 0 then none else some (x.tdiv y) := rfl
theorem zop_mod {x y : Int} : zop 137 x y = if y = 0 then none else some (x.tmod y) := rfl
/-- a step by a sign that must not be followed by 0 -/
theorem zst_dv {s : Nat} {f : Int → Int → Int} (hf0 : f 0 1 = 0) (hfx : ∀ x y, (-1000000000 ≤ x ∧ x ≤ 1000000000) → -1000000000 ≤ f x y ∧ f x y ≤ 1000000000) (hz : ∀ x y, zop s x y = if y = 0 then none else some (f x y)) {lv b : Bool} {a t : zX} (ha : zBe w a) :
    (zvl w lv (zbs w lv b a) t = 0 → ((zbs w lv (zbs w lv b a) t || lv) || (lv && zrng (f (zvl w lv b a) 1))) = zbs w lv b (zx_op s a t) ∧
      (if ((zbs w lv (zbs w lv b a) t || lv) || (lv && zrng (f (zvl w lv b a) 1))) = true then 0 else f (zvl w lv b a) 1) = zvl w lv b (zx_op s a t)) ∧
    (zvl w lv (zbs w lv b a) t ≠ 0 → (zbs w lv (zbs w lv b a) t || (lv && zrng (f (zvl w lv b a) (zvl w lv (zbs w lv b a) t)))) = zbs w lv b (zx_op s a t) ∧
    (if (zbs w lv (zbs w lv b a) t || (lv && zrng (f (zvl w lv b a) (zvl w lv (zbs w lv b a) t)))) = true then 0 else f (zvl w lv b a) (zvl w lv (zbs w lv b a) t)) = zvl w lv b (zx_op s a t)) := by
  refine zst_cases (w := w) (lv := lv) (b := b) (a := a) (t := t) (fun h => ?_) (fun h1 h2 h3 => ?_) (fun x h1 h2 h3 h4 => ?_) (fun x y h1 h2 h3 h4 => ?_)
  · rw [zbs_0 h, zbs_0 h, zbs_0 h, zvl_0 h, zvl_0 h, zvl_0 h, hf0, zrng_0]
    refine ⟨fun _ => ?_, fun h => absurd rfl h⟩
    rcases h with rfl | rfl
    · cases b <;> simp
    · simp
  · subst h1; subst h2
    rw [zbs_n h3, zbs_0 (Or.inr rfl), zbs_n (zx_op_n h3), zvl_n (zx_op_n h3), zvl_0 (Or.inr rfl)]
    simp
  · subst h1; subst h2
    rw [zbs_s h3, zbs_n h4, zbs_n (zx_op_n2 h3 h4), zvl_n (zx_op_n2 h3 h4), zvl_n h4]
    simp
  · subst h1; subst h2
    rw [zbs_s h3, zbs_s h4, zvl_s h3, zvl_s h4]
    have e := (zx_op_s (o := s) h3 h4).trans (hz x y)
    refine ⟨fun h => ?_, fun h => ?_⟩
    · rw [if_pos h] at e
      rw [zbs_n e, zvl_n e]
      simp
    · rw [if_neg h] at e
      rw [zbs_s e, zvl_s e, zrng_f (hfx x y (ha x h3))]
      simp
theorem zm_termOf_loop {D : Nat} {P : zX → Nat → Nat → Prop} {lv b : Bool} {post : Option Value → Nat → (Nat → zq_E) → Prop} (hD : 2 ≤ D) (hR : zRun σ B E cd vl o) (hI : zIn E P) (hB : zBn w P) (HP : zHV l G n B w σ ρ (D - 1) yX12_partOf P) : ∀ (f : Nat) (a e : zX) (j k : Nat), zTL cd [142, 147, 137] zx_op P f a j e k → j ≤ E → zBe w a →
    post (some (.long (zL (zvl w lv b e)))) n (zm_h (zg σ (B + k) (zbs w lv b e)) ρ) → zq_At l G (zq_rm D 0 0) mX12_termOf (zq_QF G post 0 0) 6 [(0, .ref 70), (1, .int (zb lv)), (2, .long (zL (zvl w lv b a)))] [] n (zm_h (zg σ (B + j) (zbs w lv b a)) ρ) 0 0 := by
  have hE := hR.2.2.1
  have e0 : (0 : Int64) = zL 0 := rfl
  have e1 : (1 : Int64) = zL 1 := rfl
  intro f
  induction f with
  | zero => intro a e j k h; exact h.elim
  | succ f ih =>
    intro a e j k h hj ha hp
    have h5 := hR.2.2.2.2.1 j
    rcases h with ⟨h, rfl, rfl⟩ | ⟨hm, t, m, ht, h⟩
    · have n1 : cd k ≠ 142 := fun c => h (by simp [c])
      have n2 : cd k ≠ 147 := fun c => h (by simp [c])
      have n3 : cd k ≠ 137 := fun c => h (by simp [c])
      refine at_aload_n dX12_termOf_6 rfl ?_
      refine at_aload_n dX12_termOf_7 rfl ?_
      refine at_get dX12_termOf_8 fl_X12_286 rfl rfl ?_
      rw [zg_23]
      refine at_callV1 (d := D - 1) dX12_termOf_11 mv_X12_289 rfl (Nat.le_of_ble_eq_true rfl) (zq_r0 (by omega) (by omega) (by omega)) ?_
      refine zm_codeAt hR (by omega) ?_
      refine at_bipush dX12_termOf_14 (v := nI 42) (by decide) ?_
      refine at_callS1 (d := D - 1) dX12_termOf_16 ms_X12_245 (Nat.le_of_ble_eq_true rfl) (zq_r0 (by omega) (by omega) (by omega)) ?_
      refine zm_sign ?_
      refine at_eqN (tgt := 54) dX12_termOf_19 (by decide) (by omega) (by omega) (fun c19 => ?_) (fun c19 => ?_)
      · omega
      · refine at_aload_n dX12_termOf_22 rfl ?_
        refine at_aload_n dX12_termOf_23 rfl ?_
        refine at_get dX12_termOf_24 fl_X12_286 rfl rfl ?_
        rw [zg_23]
        refine at_callV1 (d := D - 1) dX12_termOf_27 mv_X12_289 rfl (Nat.le_of_ble_eq_true rfl) (zq_r0 (by omega) (by omega) (by omega)) ?_
        refine zm_codeAt hR (by omega) ?_
        refine at_bipush dX12_termOf_30 (v := nI 47) (by decide) ?_
        refine at_callS1 (d := D - 1) dX12_termOf_32 ms_X12_245 (Nat.le_of_ble_eq_true rfl) (zq_r0 (by omega) (by omega) (by omega)) ?_
        refine zm_sign ?_
        refine at_eqN (tgt := 54) dX12_termOf_35 (by decide) (by omega) (by omega) (fun c35 => ?_) (fun c35 => ?_)
        · omega
        · refine at_aload_n dX12_termOf_38 rfl ?_
          refine at_aload_n dX12_termOf_39 rfl ?_
          refine at_get dX12_termOf_40 fl_X12_286 rfl rfl ?_
          rw [zg_23]
          refine at_callV1 (d := D - 1) dX12_termOf_43 mv_X12_289 rfl (Nat.le_of_ble_eq_true rfl) (zq_r0 (by omega) (by omega) (by omega)) ?_
          refine zm_codeAt hR (by omega) ?_
          refine at_bipush dX12_termOf_46 (v := nI 37) (by decide) ?_
          refine at_callS1 (d := D - 1) dX12_termOf_48 ms_X12_245 (Nat.le_of_ble_eq_true rfl) (zq_r0 (by omega) (by omega) (by omega)) ?_
          refine zm_sign ?_
          refine at_neN (tgt := 168) dX12_termOf_51 (by decide) (by omega) (by omega) (fun c51 => ?_) (fun c51 => ?_)
          · refine at_lload_n dX12_termOf_168 rfl ?_
            refine at_lret dX12_termOf_169 rfl (by omega) (by omega) ?_
            exact hp
          · omega
    · have hin := hI _ _ _ ht
      have hbt := hB _ _ _ ht
      have hva := zvl_b (w := w) (lv := lv) (b := b) ha
      have hvt := zvl_b (w := w) (lv := lv) (b := zbs w lv b a) hbt
      have hnx := ih _ e m k h hin.2 (zBe_op ha) hp
      rcases (show cd j = 142 ∨ cd j = 147 ∨ cd j = 137 by simpa using hm) with hs | hs | hs
      · have g := zst_go (w := w) (s := 142) (f := fun x y => x * y) (by decide) (fun x hx => by show _ ≤ x * 0 ∧ x * 0 ≤ _; omega) (fun x y _ => zop_mul) (lv := lv) (b := b) (a := a) (t := t) ha
        have hmb := zmul_b hva hvt
        rw [hs] at hnx
        rw [← g.1, ← g.2] at hnx
        refine at_aload_n dX12_termOf_6 rfl ?_
        refine at_aload_n dX12_termOf_7 rfl ?_
        refine at_get dX12_termOf_8 fl_X12_286 rfl rfl ?_
        rw [zg_23]
        refine at_callV1 (d := D - 1) dX12_termOf_11 mv_X12_289 rfl (Nat.le_of_ble_eq_true rfl) (zq_r0 (by omega) (by omega) (by omega)) ?_
        refine zm_codeAt hR (by omega) ?_
        refine at_bipush dX12_termOf_14 (v := nI 42) (by decide) ?_
        refine at_callS1 (d := D - 1) dX12_termOf_16 ms_X12_245 (Nat.le_of_ble_eq_true rfl) (zq_r0 (by omega) (by omega) (by omega)) ?_
        refine zm_sign ?_
        refine at_eqN (tgt := 54) dX12_termOf_19 (by decide) (by omega) (by omega) (fun c19 => ?_) (fun c19 => ?_)
        · refine at_aload_n dX12_termOf_54 rfl ?_
          refine at_aload_n dX12_termOf_55 rfl ?_
          refine at_get dX12_termOf_56 fl_X12_286 rfl rfl ?_
          rw [zg_23]
          refine at_callV1 (d := D - 1) dX12_termOf_59 mv_X12_289 rfl (Nat.le_of_ble_eq_true rfl) (zq_r0 (by omega) (by omega) (by omega)) ?_
          refine zm_codeAt hR (by omega) ?_
          refine at_istore dX12_termOf_62 (by decide) ?_
          refine at_aload_n dX12_termOf_64 rfl ?_
          refine at_dup dX12_termOf_65 rfl ?_
          refine at_get dX12_termOf_66 fl_X12_286 rfl rfl ?_
          rw [zg_23]
          refine at_iconst dX12_termOf_69 (v := nI 1) (by decide) ?_
          refine at_iaddN dX12_termOf_70 ?_
          refine at_mput dX12_termOf_71 (pl_X12_286 _) (fun _ => ⟨_, rfl⟩) rfl rfl ?_
          rw [zg_s23, Nat.add_assoc]
          refine at_aload_n dX12_termOf_74 rfl ?_
          refine at_iload_n dX12_termOf_75 rfl ?_
          refine at_callV1 (d := D - 1) dX12_termOf_76 mv_X12_307 rfl (Nat.le_of_ble_eq_true rfl) (zq_r0 (by omega) (by omega) (by omega)) ?_
          refine HP t (j + 1) m lv _ _ ht ?_
          refine at_lstore dX12_termOf_79 (by decide) ?_
          refine at_iload dX12_termOf_81 rfl ?_
          refine at_bipush dX12_termOf_83 (v := nI 42) (by decide) ?_
          refine at_callS1 (d := D - 1) dX12_termOf_85 ms_X12_245 (Nat.le_of_ble_eq_true rfl) (zq_r0 (by omega) (by omega) (by omega)) ?_
          refine zm_sign ?_
          refine at_eqN (tgt := 121) dX12_termOf_88 (by decide) (by omega) (by omega) (fun c88 => ?_) (fun c88 => ?_)
          · refine at_aload_n dX12_termOf_121 rfl ?_
            refine at_iload dX12_termOf_122 rfl ?_
            refine at_bipush dX12_termOf_124 (v := nI 42) (by decide) ?_
            refine at_callS1 (d := D - 1) dX12_termOf_126 ms_X12_245 (Nat.le_of_ble_eq_true rfl) (zq_r0 (by omega) (by omega) (by omega)) ?_
            refine zm_sign ?_
            refine at_neN (tgt := 139) dX12_termOf_129 (by decide) (by omega) (by omega) (fun c129 => ?_) (fun c129 => ?_)
            · omega
            · refine at_lload_n dX12_termOf_132 rfl ?_
              refine at_lload dX12_termOf_133 rfl ?_
              refine at_lmul dX12_termOf_135 ?_
              rw [zL_mul]
              refine at_goto (tgt := 160) dX12_termOf_136 (by decide) ?_
              refine at_iload_n dX12_termOf_160 rfl ?_
              refine at_callV2 (d := D - 1) dX12_termOf_161 mv_X12_303 rfl (Nat.le_of_ble_eq_true rfl) (zq_r0 (by omega) (by omega) (by omega)) ?_
              refine zm_bounded (by omega) (by omega) ?_
              refine at_lstore_n dX12_termOf_164 rfl (by decide) ?_
              refine at_goto (tgt := 6) dX12_termOf_165 (by decide) ?_
              refine at_lv [0, 1, 2] ?_; exact hnx
          · omega
        · omega
      · have g := zst_dv (w := w) (s := 147) (f := fun x y => Int.tdiv x y) (by decide) (fun x y hx => ztd_b hx) (fun x y => zop_div) (lv := lv) (b := b) (a := a) (t := t) ha
        rw [hs] at hnx
        by_cases hy : zvl w lv (zbs w lv b a) t = 0
        · have hb1 := ztd_b (y := 1) hva
          rw [← (g.1 hy).1, ← (g.1 hy).2] at hnx
          refine at_aload_n dX12_termOf_6 rfl ?_
          refine at_aload_n dX12_termOf_7 rfl ?_
          refine at_get dX12_termOf_8 fl_X12_286 rfl rfl ?_
          rw [zg_23]
          refine at_callV1 (d := D - 1) dX12_termOf_11 mv_X12_289 rfl (Nat.le_of_ble_eq_true rfl) (zq_r0 (by omega) (by omega) (by omega)) ?_
          refine zm_codeAt hR (by omega) ?_
          refine at_bipush dX12_termOf_14 (v := nI 42) (by decide) ?_
          refine at_callS1 (d := D - 1) dX12_termOf_16 ms_X12_245 (Nat.le_of_ble_eq_true rfl) (zq_r0 (by omega) (by omega) (by omega)) ?_
          refine zm_sign ?_
          refine at_eqN (tgt := 54) dX12_termOf_19 (by decide) (by omega) (by omega) (fun c19 => ?_) (fun c19 => ?_)
          · omega
          · refine at_aload_n dX12_termOf_22 rfl ?_
            refine at_aload_n dX12_termOf_23 rfl ?_
            refine at_get dX12_termOf_24 fl_X12_286 rfl rfl ?_
            rw [zg_23]
            refine at_callV1 (d := D - 1) dX12_termOf_27 mv_X12_289 rfl (Nat.le_of_ble_eq_true rfl) (zq_r0 (by omega) (by omega) (by omega)) ?_
            refine zm_codeAt hR (by omega) ?_
            refine at_bipush dX12_termOf_30 (v := nI 47) (by decide) ?_
            refine at_callS1 (d := D - 1) dX12_termOf_32 ms_X12_245 (Nat.le_of_ble_eq_true rfl) (zq_r0 (by omega) (by omega) (by omega)) ?_
            refine zm_sign ?_
            refine at_eqN (tgt := 54) dX12_termOf_35 (by decide) (by omega) (by omega) (fun c35 => ?_) (fun c35 => ?_)
            · refine at_aload_n dX12_termOf_54 rfl ?_
              refine at_aload_n dX12_termOf_55 rfl ?_
              refine at_get dX12_termOf_56 fl_X12_286 rfl rfl ?_
              rw [zg_23]
              refine at_callV1 (d := D - 1) dX12_termOf_59 mv_X12_289 rfl (Nat.le_of_ble_eq_true rfl) (zq_r0 (by omega) (by omega) (by omega)) ?_
              refine zm_codeAt hR (by omega) ?_
              refine at_istore dX12_termOf_62 (by decide) ?_
              refine at_aload_n dX12_termOf_64 rfl ?_
              refine at_dup dX12_termOf_65 rfl ?_
              refine at_get dX12_termOf_66 fl_X12_286 rfl rfl ?_
              rw [zg_23]
              refine at_iconst dX12_termOf_69 (v := nI 1) (by decide) ?_
              refine at_iaddN dX12_termOf_70 ?_
              refine at_mput dX12_termOf_71 (pl_X12_286 _) (fun _ => ⟨_, rfl⟩) rfl rfl ?_
              rw [zg_s23, Nat.add_assoc]
              refine at_aload_n dX12_termOf_74 rfl ?_
              refine at_iload_n dX12_termOf_75 rfl ?_
              refine at_callV1 (d := D - 1) dX12_termOf_76 mv_X12_307 rfl (Nat.le_of_ble_eq_true rfl) (zq_r0 (by omega) (by omega) (by omega)) ?_
              refine HP t (j + 1) m lv _ _ ht ?_
              refine at_lstore dX12_termOf_79 (by decide) ?_
              refine at_iload dX12_termOf_81 rfl ?_
              refine at_bipush dX12_termOf_83 (v := nI 42) (by decide) ?_
              refine at_callS1 (d := D - 1) dX12_termOf_85 ms_X12_245 (Nat.le_of_ble_eq_true rfl) (zq_r0 (by omega) (by omega) (by omega)) ?_
              refine zm_sign ?_
              refine at_eqN (tgt := 121) dX12_termOf_88 (by decide) (by omega) (by omega) (fun c88 => ?_) (fun c88 => ?_)
              · omega
              · refine at_lload dX12_termOf_91 rfl ?_
                refine at_lconst dX12_termOf_93 (v := 0) rfl ?_
                refine at_lcmp dX12_termOf_94 ?_
                refine at_if_ne (tgt := 121) dX12_termOf_95 (by decide) (fun c95 => ?_) (fun c95 => ?_)
                · exact absurd ((lg_cmp_eq _ _).mpr ((zL_eq (by omega) (by omega)).mpr hy)) c95
                · refine at_aload_n dX12_termOf_98 rfl ?_
                  refine at_aload_n dX12_termOf_99 rfl ?_
                  refine at_get dX12_termOf_100 fl_X12_296 rfl rfl ?_
                  rw [zg_25]
                  refine at_if_neB (tgt := 110) dX12_termOf_103 (by decide) (fun c103 => ?_) (fun c103 => ?_)
                  · rw [c103, Bool.true_or] at hnx
                    refine at_iconst dX12_termOf_110 (v := nI 1) (by decide) ?_
                    refine at_goto (tgt := 115) dX12_termOf_111 (by decide) ?_
                    refine at_mput dX12_termOf_115 (pl_X12_296 _) (fun _ => ⟨_, rfl⟩) rfl rfl ?_
                    rw [← zb_1, zg_s25]
                    refine at_lconst dX12_termOf_118 (v := 1) rfl ?_
                    refine at_lstore dX12_termOf_119 (by decide) ?_
                    refine at_aload_n dX12_termOf_121 rfl ?_
                    refine at_iload dX12_termOf_122 rfl ?_
                    refine at_bipush dX12_termOf_124 (v := nI 42) (by decide) ?_
                    refine at_callS1 (d := D - 1) dX12_termOf_126 ms_X12_245 (Nat.le_of_ble_eq_true rfl) (zq_r0 (by omega) (by omega) (by omega)) ?_
                    refine zm_sign ?_
                    refine at_neN (tgt := 139) dX12_termOf_129 (by decide) (by omega) (by omega) (fun c129 => ?_) (fun c129 => ?_)
                    · refine at_iload dX12_termOf_139 rfl ?_
                      refine at_bipush dX12_termOf_141 (v := nI 47) (by decide) ?_
                      refine at_callS1 (d := D - 1) dX12_termOf_143 ms_X12_245 (Nat.le_of_ble_eq_true rfl) (zq_r0 (by omega) (by omega) (by omega)) ?_
                      refine zm_sign ?_
                      refine at_neN (tgt := 156) dX12_termOf_146 (by decide) (by omega) (by omega) (fun c146 => ?_) (fun c146 => ?_)
                      · omega
                      · refine at_lload_n dX12_termOf_149 rfl ?_
                        refine at_lload dX12_termOf_150 rfl ?_
                        refine at_ldiv dX12_termOf_152 (by decide) ?_
                        rw [e1, zL_div hva (by omega)]
                        refine at_goto (tgt := 160) dX12_termOf_153 (by decide) ?_
                        refine at_iload_n dX12_termOf_160 rfl ?_
                        refine at_callV2 (d := D - 1) dX12_termOf_161 mv_X12_303 rfl (Nat.le_of_ble_eq_true rfl) (zq_r0 (by omega) (by omega) (by omega)) ?_
                        refine zm_bounded (by omega) (by omega) ?_
                        refine at_lstore_n dX12_termOf_164 rfl (by decide) ?_
                        refine at_goto (tgt := 6) dX12_termOf_165 (by decide) ?_
                        refine at_lv [0, 1, 2] ?_; exact hnx
                    · omega
                  · refine at_iload_n dX12_termOf_106 rfl ?_
                    refine at_if_eqB (tgt := 114) dX12_termOf_107 (by decide) (fun c107 => ?_) (fun c107 => ?_)
                    · rw [c103, c107, Bool.false_or] at hnx
                      refine at_iconst dX12_termOf_114 (v := nI 0) (by decide) ?_
                      refine at_mput dX12_termOf_115 (pl_X12_296 _) (fun _ => ⟨_, rfl⟩) rfl rfl ?_
                      rw [← zb_0, zg_s25]
                      refine at_lconst dX12_termOf_118 (v := 1) rfl ?_
                      refine at_lstore dX12_termOf_119 (by decide) ?_
                      refine at_aload_n dX12_termOf_121 rfl ?_
                      refine at_iload dX12_termOf_122 rfl ?_
                      refine at_bipush dX12_termOf_124 (v := nI 42) (by decide) ?_
                      refine at_callS1 (d := D - 1) dX12_termOf_126 ms_X12_245 (Nat.le_of_ble_eq_true rfl) (zq_r0 (by omega) (by omega) (by omega)) ?_
                      refine zm_sign ?_
                      refine at_neN (tgt := 139) dX12_termOf_129 (by decide) (by omega) (by omega) (fun c129 => ?_) (fun c129 => ?_)
                      · refine at_iload dX12_termOf_139 rfl ?_
                        refine at_bipush dX12_termOf_141 (v := nI 47) (by decide) ?_
                        refine at_callS1 (d := D - 1) dX12_termOf_143 ms_X12_245 (Nat.le_of_ble_eq_true rfl) (zq_r0 (by omega) (by omega) (by omega)) ?_
                        refine zm_sign ?_
                        refine at_neN (tgt := 156) dX12_termOf_146 (by decide) (by omega) (by omega) (fun c146 => ?_) (fun c146 => ?_)
                        · omega
                        · refine at_lload_n dX12_termOf_149 rfl ?_
                          refine at_lload dX12_termOf_150 rfl ?_
                          refine at_ldiv dX12_termOf_152 (by decide) ?_
                          rw [e1, zL_div hva (by omega)]
                          refine at_goto (tgt := 160) dX12_termOf_153 (by decide) ?_
                          refine at_iload_n dX12_termOf_160 rfl ?_
                          refine at_callV2 (d := D - 1) dX12_termOf_161 mv_X12_303 rfl (Nat.le_of_ble_eq_true rfl) (zq_r0 (by omega) (by omega) (by omega)) ?_
                          refine zm_bounded (by omega) (by omega) ?_
                          refine at_lstore_n dX12_termOf_164 rfl (by decide) ?_
                          refine at_goto (tgt := 6) dX12_termOf_165 (by decide) ?_
                          refine at_lv [0, 1, 2] ?_; rw [c107]; exact hnx
                      · omega
                    · rw [show (zbs w lv (zbs w lv b a) t || lv) = true by rw [c107]; simp] at hnx
                      refine at_iconst dX12_termOf_110 (v := nI 1) (by decide) ?_
                      refine at_goto (tgt := 115) dX12_termOf_111 (by decide) ?_
                      refine at_mput dX12_termOf_115 (pl_X12_296 _) (fun _ => ⟨_, rfl⟩) rfl rfl ?_
                      rw [← zb_1, zg_s25]
                      refine at_lconst dX12_termOf_118 (v := 1) rfl ?_
                      refine at_lstore dX12_termOf_119 (by decide) ?_
                      refine at_aload_n dX12_termOf_121 rfl ?_
                      refine at_iload dX12_termOf_122 rfl ?_
                      refine at_bipush dX12_termOf_124 (v := nI 42) (by decide) ?_
                      refine at_callS1 (d := D - 1) dX12_termOf_126 ms_X12_245 (Nat.le_of_ble_eq_true rfl) (zq_r0 (by omega) (by omega) (by omega)) ?_
                      refine zm_sign ?_
                      refine at_neN (tgt := 139) dX12_termOf_129 (by decide) (by omega) (by omega) (fun c129 => ?_) (fun c129 => ?_)
                      · refine at_iload dX12_termOf_139 rfl ?_
                        refine at_bipush dX12_termOf_141 (v := nI 47) (by decide) ?_
                        refine at_callS1 (d := D - 1) dX12_termOf_143 ms_X12_245 (Nat.le_of_ble_eq_true rfl) (zq_r0 (by omega) (by omega) (by omega)) ?_
                        refine zm_sign ?_
                        refine at_neN (tgt := 156) dX12_termOf_146 (by decide) (by omega) (by omega) (fun c146 => ?_) (fun c146 => ?_)
                        · omega
                        · refine at_lload_n dX12_termOf_149 rfl ?_
                          refine at_lload dX12_termOf_150 rfl ?_
                          refine at_ldiv dX12_termOf_152 (by decide) ?_
                          rw [e1, zL_div hva (by omega)]
                          refine at_goto (tgt := 160) dX12_termOf_153 (by decide) ?_
                          refine at_iload_n dX12_termOf_160 rfl ?_
                          refine at_callV2 (d := D - 1) dX12_termOf_161 mv_X12_303 rfl (Nat.le_of_ble_eq_true rfl) (zq_r0 (by omega) (by omega) (by omega)) ?_
                          refine zm_bounded (by omega) (by omega) ?_
                          refine at_lstore_n dX12_termOf_164 rfl (by decide) ?_
                          refine at_goto (tgt := 6) dX12_termOf_165 (by decide) ?_
                          refine at_lv [0, 1, 2] ?_; exact hnx
                      · omega
            · omega
        · have hb1 := ztd_b (y := zvl w lv (zbs w lv b a) t) hva
          have hz0 : ¬ zL (zvl w lv (zbs w lv b a) t) = 0 := fun h => hy ((zL_eq (by omega) (by omega)).mp h)
          rw [← (g.2 hy).1, ← (g.2 hy).2] at hnx
          refine at_aload_n dX12_termOf_6 rfl ?_
          refine at_aload_n dX12_termOf_7 rfl ?_
          refine at_get dX12_termOf_8 fl_X12_286 rfl rfl ?_
          rw [zg_23]
          refine at_callV1 (d := D - 1) dX12_termOf_11 mv_X12_289 rfl (Nat.le_of_ble_eq_true rfl) (zq_r0 (by omega) (by omega) (by omega)) ?_
          refine zm_codeAt hR (by omega) ?_
          refine at_bipush dX12_termOf_14 (v := nI 42) (by decide) ?_
          refine at_callS1 (d := D - 1) dX12_termOf_16 ms_X12_245 (Nat.le_of_ble_eq_true rfl) (zq_r0 (by omega) (by omega) (by omega)) ?_
          refine zm_sign ?_
          refine at_eqN (tgt := 54) dX12_termOf_19 (by decide) (by omega) (by omega) (fun c19 => ?_) (fun c19 => ?_)
          · omega
          · refine at_aload_n dX12_termOf_22 rfl ?_
            refine at_aload_n dX12_termOf_23 rfl ?_
            refine at_get dX12_termOf_24 fl_X12_286 rfl rfl ?_
            rw [zg_23]
            refine at_callV1 (d := D - 1) dX12_termOf_27 mv_X12_289 rfl (Nat.le_of_ble_eq_true rfl) (zq_r0 (by omega) (by omega) (by omega)) ?_
            refine zm_codeAt hR (by omega) ?_
            refine at_bipush dX12_termOf_30 (v := nI 47) (by decide) ?_
            refine at_callS1 (d := D - 1) dX12_termOf_32 ms_X12_245 (Nat.le_of_ble_eq_true rfl) (zq_r0 (by omega) (by omega) (by omega)) ?_
            refine zm_sign ?_
            refine at_eqN (tgt := 54) dX12_termOf_35 (by decide) (by omega) (by omega) (fun c35 => ?_) (fun c35 => ?_)
            · refine at_aload_n dX12_termOf_54 rfl ?_
              refine at_aload_n dX12_termOf_55 rfl ?_
              refine at_get dX12_termOf_56 fl_X12_286 rfl rfl ?_
              rw [zg_23]
              refine at_callV1 (d := D - 1) dX12_termOf_59 mv_X12_289 rfl (Nat.le_of_ble_eq_true rfl) (zq_r0 (by omega) (by omega) (by omega)) ?_
              refine zm_codeAt hR (by omega) ?_
              refine at_istore dX12_termOf_62 (by decide) ?_
              refine at_aload_n dX12_termOf_64 rfl ?_
              refine at_dup dX12_termOf_65 rfl ?_
              refine at_get dX12_termOf_66 fl_X12_286 rfl rfl ?_
              rw [zg_23]
              refine at_iconst dX12_termOf_69 (v := nI 1) (by decide) ?_
              refine at_iaddN dX12_termOf_70 ?_
              refine at_mput dX12_termOf_71 (pl_X12_286 _) (fun _ => ⟨_, rfl⟩) rfl rfl ?_
              rw [zg_s23, Nat.add_assoc]
              refine at_aload_n dX12_termOf_74 rfl ?_
              refine at_iload_n dX12_termOf_75 rfl ?_
              refine at_callV1 (d := D - 1) dX12_termOf_76 mv_X12_307 rfl (Nat.le_of_ble_eq_true rfl) (zq_r0 (by omega) (by omega) (by omega)) ?_
              refine HP t (j + 1) m lv _ _ ht ?_
              refine at_lstore dX12_termOf_79 (by decide) ?_
              refine at_iload dX12_termOf_81 rfl ?_
              refine at_bipush dX12_termOf_83 (v := nI 42) (by decide) ?_
              refine at_callS1 (d := D - 1) dX12_termOf_85 ms_X12_245 (Nat.le_of_ble_eq_true rfl) (zq_r0 (by omega) (by omega) (by omega)) ?_
              refine zm_sign ?_
              refine at_eqN (tgt := 121) dX12_termOf_88 (by decide) (by omega) (by omega) (fun c88 => ?_) (fun c88 => ?_)
              · omega
              · refine at_lload dX12_termOf_91 rfl ?_
                refine at_lconst dX12_termOf_93 (v := 0) rfl ?_
                refine at_lcmp dX12_termOf_94 ?_
                refine at_if_ne (tgt := 121) dX12_termOf_95 (by decide) (fun c95 => ?_) (fun c95 => ?_)
                · refine at_aload_n dX12_termOf_121 rfl ?_
                  refine at_iload dX12_termOf_122 rfl ?_
                  refine at_bipush dX12_termOf_124 (v := nI 42) (by decide) ?_
                  refine at_callS1 (d := D - 1) dX12_termOf_126 ms_X12_245 (Nat.le_of_ble_eq_true rfl) (zq_r0 (by omega) (by omega) (by omega)) ?_
                  refine zm_sign ?_
                  refine at_neN (tgt := 139) dX12_termOf_129 (by decide) (by omega) (by omega) (fun c129 => ?_) (fun c129 => ?_)
                  · refine at_iload dX12_termOf_139 rfl ?_
                    refine at_bipush dX12_termOf_141 (v := nI 47) (by decide) ?_
                    refine at_callS1 (d := D - 1) dX12_termOf_143 ms_X12_245 (Nat.le_of_ble_eq_true rfl) (zq_r0 (by omega) (by omega) (by omega)) ?_
                    refine zm_sign ?_
                    refine at_neN (tgt := 156) dX12_termOf_146 (by decide) (by omega) (by omega) (fun c146 => ?_) (fun c146 => ?_)
                    · omega
                    · refine at_lload_n dX12_termOf_149 rfl ?_
                      refine at_lload dX12_termOf_150 rfl ?_
                      refine at_ldiv dX12_termOf_152 hz0 ?_
                      rw [zL_div hva hvt]
                      refine at_goto (tgt := 160) dX12_termOf_153 (by decide) ?_
                      refine at_iload_n dX12_termOf_160 rfl ?_
                      refine at_callV2 (d := D - 1) dX12_termOf_161 mv_X12_303 rfl (Nat.le_of_ble_eq_true rfl) (zq_r0 (by omega) (by omega) (by omega)) ?_
                      refine zm_bounded (by omega) (by omega) ?_
                      refine at_lstore_n dX12_termOf_164 rfl (by decide) ?_
                      refine at_goto (tgt := 6) dX12_termOf_165 (by decide) ?_
                      refine at_lv [0, 1, 2] ?_; exact hnx
                  · omega
                · exact absurd ((lg_cmp_eq _ _).mp c95) hz0
            · omega
      · have g := zst_dv (w := w) (s := 137) (f := fun x y => Int.tmod x y) (by decide) (fun x y hx => ztm_b hx) (fun x y => zop_mod) (lv := lv) (b := b) (a := a) (t := t) ha
        rw [hs] at hnx
        by_cases hy : zvl w lv (zbs w lv b a) t = 0
        · have hb1 := ztm_b (y := 1) hva
          rw [← (g.1 hy).1, ← (g.1 hy).2] at hnx
          refine at_aload_n dX12_termOf_6 rfl ?_
          refine at_aload_n dX12_termOf_7 rfl ?_
          refine at_get dX12_termOf_8 fl_X12_286 rfl rfl ?_
          rw [zg_23]
          refine at_callV1 (d := D - 1) dX12_termOf_11 mv_X12_289 rfl (Nat.le_of_ble_eq_true rfl) (zq_r0 (by omega) (by omega) (by omega)) ?_
          refine zm_codeAt hR (by omega) ?_
          refine at_bipush dX12_termOf_14 (v := nI 42) (by decide) ?_
          refine at_callS1 (d := D - 1) dX12_termOf_16 ms_X12_245 (Nat.le_of_ble_eq_true rfl) (zq_r0 (by omega) (by omega) (by omega)) ?_
          refine zm_sign ?_
          refine at_eqN (tgt := 54) dX12_termOf_19 (by decide) (by omega) (by omega) (fun c19 => ?_) (fun c19 => ?_)
          · omega
          · refine at_aload_n dX12_termOf_22 rfl ?_
            refine at_aload_n dX12_termOf_23 rfl ?_
            refine at_get dX12_termOf_24 fl_X12_286 rfl rfl ?_
            rw [zg_23]
            refine at_callV1 (d := D - 1) dX12_termOf_27 mv_X12_289 rfl (Nat.le_of_ble_eq_true rfl) (zq_r0 (by omega) (by omega) (by omega)) ?_
            refine zm_codeAt hR (by omega) ?_
            refine at_bipush dX12_termOf_30 (v := nI 47) (by decide) ?_
            refine at_callS1 (d := D - 1) dX12_termOf_32 ms_X12_245 (Nat.le_of_ble_eq_true rfl) (zq_r0 (by omega) (by omega) (by omega)) ?_
            refine zm_sign ?_
            refine at_eqN (tgt := 54) dX12_termOf_35 (by decide) (by omega) (by omega) (fun c35 => ?_) (fun c35 => ?_)
            · omega
            · refine at_aload_n dX12_termOf_38 rfl ?_
              refine at_aload_n dX12_termOf_39 rfl ?_
              refine at_get dX12_termOf_40 fl_X12_286 rfl rfl ?_
              rw [zg_23]
              refine at_callV1 (d := D - 1) dX12_termOf_43 mv_X12_289 rfl (Nat.le_of_ble_eq_true rfl) (zq_r0 (by omega) (by omega) (by omega)) ?_
              refine zm_codeAt hR (by omega) ?_
              refine at_bipush dX12_termOf_46 (v := nI 37) (by decide) ?_
              refine at_callS1 (d := D - 1) dX12_termOf_48 ms_X12_245 (Nat.le_of_ble_eq_true rfl) (zq_r0 (by omega) (by omega) (by omega)) ?_
              refine zm_sign ?_
              refine at_neN (tgt := 168) dX12_termOf_51 (by decide) (by omega) (by omega) (fun c51 => ?_) (fun c51 => ?_)
              · omega
              · refine at_aload_n dX12_termOf_54 rfl ?_
                refine at_aload_n dX12_termOf_55 rfl ?_
                refine at_get dX12_termOf_56 fl_X12_286 rfl rfl ?_
                rw [zg_23]
                refine at_callV1 (d := D - 1) dX12_termOf_59 mv_X12_289 rfl (Nat.le_of_ble_eq_true rfl) (zq_r0 (by omega) (by omega) (by omega)) ?_
                refine zm_codeAt hR (by omega) ?_
                refine at_istore dX12_termOf_62 (by decide) ?_
                refine at_aload_n dX12_termOf_64 rfl ?_
                refine at_dup dX12_termOf_65 rfl ?_
                refine at_get dX12_termOf_66 fl_X12_286 rfl rfl ?_
                rw [zg_23]
                refine at_iconst dX12_termOf_69 (v := nI 1) (by decide) ?_
                refine at_iaddN dX12_termOf_70 ?_
                refine at_mput dX12_termOf_71 (pl_X12_286 _) (fun _ => ⟨_, rfl⟩) rfl rfl ?_
                rw [zg_s23, Nat.add_assoc]
                refine at_aload_n dX12_termOf_74 rfl ?_
                refine at_iload_n dX12_termOf_75 rfl ?_
                refine at_callV1 (d := D - 1) dX12_termOf_76 mv_X12_307 rfl (Nat.le_of_ble_eq_true rfl) (zq_r0 (by omega) (by omega) (by omega)) ?_
                refine HP t (j + 1) m lv _ _ ht ?_
                refine at_lstore dX12_termOf_79 (by decide) ?_
                refine at_iload dX12_termOf_81 rfl ?_
                refine at_bipush dX12_termOf_83 (v := nI 42) (by decide) ?_
                refine at_callS1 (d := D - 1) dX12_termOf_85 ms_X12_245 (Nat.le_of_ble_eq_true rfl) (zq_r0 (by omega) (by omega) (by omega)) ?_
                refine zm_sign ?_
                refine at_eqN (tgt := 121) dX12_termOf_88 (by decide) (by omega) (by omega) (fun c88 => ?_) (fun c88 => ?_)
                · omega
                · refine at_lload dX12_termOf_91 rfl ?_
                  refine at_lconst dX12_termOf_93 (v := 0) rfl ?_
                  refine at_lcmp dX12_termOf_94 ?_
                  refine at_if_ne (tgt := 121) dX12_termOf_95 (by decide) (fun c95 => ?_) (fun c95 => ?_)
                  · exact absurd ((lg_cmp_eq _ _).mpr ((zL_eq (by omega) (by omega)).mpr hy)) c95
                  · refine at_aload_n dX12_termOf_98 rfl ?_
                    refine at_aload_n dX12_termOf_99 rfl ?_
                    refine at_get dX12_termOf_100 fl_X12_296 rfl rfl ?_
                    rw [zg_25]
                    refine at_if_neB (tgt := 110) dX12_termOf_103 (by decide) (fun c103 => ?_) (fun c103 => ?_)
                    · rw [c103, Bool.true_or] at hnx
                      refine at_iconst dX12_termOf_110 (v := nI 1) (by decide) ?_
                      refine at_goto (tgt := 115) dX12_termOf_111 (by decide) ?_
                      refine at_mput dX12_termOf_115 (pl_X12_296 _) (fun _ => ⟨_, rfl⟩) rfl rfl ?_
                      rw [← zb_1, zg_s25]
                      refine at_lconst dX12_termOf_118 (v := 1) rfl ?_
                      refine at_lstore dX12_termOf_119 (by decide) ?_
                      refine at_aload_n dX12_termOf_121 rfl ?_
                      refine at_iload dX12_termOf_122 rfl ?_
                      refine at_bipush dX12_termOf_124 (v := nI 42) (by decide) ?_
                      refine at_callS1 (d := D - 1) dX12_termOf_126 ms_X12_245 (Nat.le_of_ble_eq_true rfl) (zq_r0 (by omega) (by omega) (by omega)) ?_
                      refine zm_sign ?_
                      refine at_neN (tgt := 139) dX12_termOf_129 (by decide) (by omega) (by omega) (fun c129 => ?_) (fun c129 => ?_)
                      · refine at_iload dX12_termOf_139 rfl ?_
                        refine at_bipush dX12_termOf_141 (v := nI 47) (by decide) ?_
                        refine at_callS1 (d := D - 1) dX12_termOf_143 ms_X12_245 (Nat.le_of_ble_eq_true rfl) (zq_r0 (by omega) (by omega) (by omega)) ?_
                        refine zm_sign ?_
                        refine at_neN (tgt := 156) dX12_termOf_146 (by decide) (by omega) (by omega) (fun c146 => ?_) (fun c146 => ?_)
                        · refine at_lload_n dX12_termOf_156 rfl ?_
                          refine at_lload dX12_termOf_157 rfl ?_
                          refine at_lrem dX12_termOf_159 (by decide) ?_
                          rw [e1, zL_rem hva (by omega)]
                          refine at_iload_n dX12_termOf_160 rfl ?_
                          refine at_callV2 (d := D - 1) dX12_termOf_161 mv_X12_303 rfl (Nat.le_of_ble_eq_true rfl) (zq_r0 (by omega) (by omega) (by omega)) ?_
                          refine zm_bounded (by omega) (by omega) ?_
                          refine at_lstore_n dX12_termOf_164 rfl (by decide) ?_
                          refine at_goto (tgt := 6) dX12_termOf_165 (by decide) ?_
                          refine at_lv [0, 1, 2] ?_; exact hnx
                        · omega
                      · omega
                    · refine at_iload_n dX12_termOf_106 rfl ?_
                      refine at_if_eqB (tgt := 114) dX12_termOf_107 (by decide) (fun c107 => ?_) (fun c107 => ?_)
                      · rw [c103, c107, Bool.false_or] at hnx
                        refine at_iconst dX12_termOf_114 (v := nI 0) (by decide) ?_
                        refine at_mput dX12_termOf_115 (pl_X12_296 _) (fun _ => ⟨_, rfl⟩) rfl rfl ?_
                        rw [← zb_0, zg_s25]
                        refine at_lconst dX12_termOf_118 (v := 1) rfl ?_
                        refine at_lstore dX12_termOf_119 (by decide) ?_
                        refine at_aload_n dX12_termOf_121 rfl ?_
                        refine at_iload dX12_termOf_122 rfl ?_
                        refine at_bipush dX12_termOf_124 (v := nI 42) (by decide) ?_
                        refine at_callS1 (d := D - 1) dX12_termOf_126 ms_X12_245 (Nat.le_of_ble_eq_true rfl) (zq_r0 (by omega) (by omega) (by omega)) ?_
                        refine zm_sign ?_
                        refine at_neN (tgt := 139) dX12_termOf_129 (by decide) (by omega) (by omega) (fun c129 => ?_) (fun c129 => ?_)
                        · refine at_iload dX12_termOf_139 rfl ?_
                          refine at_bipush dX12_termOf_141 (v := nI 47) (by decide) ?_
                          refine at_callS1 (d := D - 1) dX12_termOf_143 ms_X12_245 (Nat.le_of_ble_eq_true rfl) (zq_r0 (by omega) (by omega) (by omega)) ?_
                          refine zm_sign ?_
                          refine at_neN (tgt := 156) dX12_termOf_146 (by decide) (by omega) (by omega) (fun c146 => ?_) (fun c146 => ?_)
                          · refine at_lload_n dX12_termOf_156 rfl ?_
                            refine at_lload dX12_termOf_157 rfl ?_
                            refine at_lrem dX12_termOf_159 (by decide) ?_
                            rw [e1, zL_rem hva (by omega)]
                            refine at_iload_n dX12_termOf_160 rfl ?_
                            refine at_callV2 (d := D - 1) dX12_termOf_161 mv_X12_303 rfl (Nat.le_of_ble_eq_true rfl) (zq_r0 (by omega) (by omega) (by omega)) ?_
                            refine zm_bounded (by omega) (by omega) ?_
                            refine at_lstore_n dX12_termOf_164 rfl (by decide) ?_
                            refine at_goto (tgt := 6) dX12_termOf_165 (by decide) ?_
                            refine at_lv [0, 1, 2] ?_; rw [c107]; exact hnx
                          · omega
                        · omega
                      · rw [show (zbs w lv (zbs w lv b a) t || lv) = true by rw [c107]; simp] at hnx
                        refine at_iconst dX12_termOf_110 (v := nI 1) (by decide) ?_
                        refine at_goto (tgt := 115) dX12_termOf_111 (by decide) ?_
                        refine at_mput dX12_termOf_115 (pl_X12_296 _) (fun _ => ⟨_, rfl⟩) rfl rfl ?_
                        rw [← zb_1, zg_s25]
                        refine at_lconst dX12_termOf_118 (v := 1) rfl ?_
                        refine at_lstore dX12_termOf_119 (by decide) ?_
                        refine at_aload_n dX12_termOf_121 rfl ?_
                        refine at_iload dX12_termOf_122 rfl ?_
                        refine at_bipush dX12_termOf_124 (v := nI 42) (by decide) ?_
                        refine at_callS1 (d := D - 1) dX12_termOf_126 ms_X12_245 (Nat.le_of_ble_eq_true rfl) (zq_r0 (by omega) (by omega) (by omega)) ?_
                        refine zm_sign ?_
                        refine at_neN (tgt := 139) dX12_termOf_129 (by decide) (by omega) (by omega) (fun c129 => ?_) (fun c129 => ?_)
                        · refine at_iload dX12_termOf_139 rfl ?_
                          refine at_bipush dX12_termOf_141 (v := nI 47) (by decide) ?_
                          refine at_callS1 (d := D - 1) dX12_termOf_143 ms_X12_245 (Nat.le_of_ble_eq_true rfl) (zq_r0 (by omega) (by omega) (by omega)) ?_
                          refine zm_sign ?_
                          refine at_neN (tgt := 156) dX12_termOf_146 (by decide) (by omega) (by omega) (fun c146 => ?_) (fun c146 => ?_)
                          · refine at_lload_n dX12_termOf_156 rfl ?_
                            refine at_lload dX12_termOf_157 rfl ?_
                            refine at_lrem dX12_termOf_159 (by decide) ?_
                            rw [e1, zL_rem hva (by omega)]
                            refine at_iload_n dX12_termOf_160 rfl ?_
                            refine at_callV2 (d := D - 1) dX12_termOf_161 mv_X12_303 rfl (Nat.le_of_ble_eq_true rfl) (zq_r0 (by omega) (by omega) (by omega)) ?_
                            refine zm_bounded (by omega) (by omega) ?_
                            refine at_lstore_n dX12_termOf_164 rfl (by decide) ?_
                            refine at_goto (tgt := 6) dX12_termOf_165 (by decide) ?_
                            refine at_lv [0, 1, 2] ?_; exact hnx
                          · omega
                        · omega
        · have hb1 := ztm_b (y := zvl w lv (zbs w lv b a) t) hva
          have hz0 : ¬ zL (zvl w lv (zbs w lv b a) t) = 0 := fun h => hy ((zL_eq (by omega) (by omega)).mp h)
          rw [← (g.2 hy).1, ← (g.2 hy).2] at hnx
          refine at_aload_n dX12_termOf_6 rfl ?_
          refine at_aload_n dX12_termOf_7 rfl ?_
          refine at_get dX12_termOf_8 fl_X12_286 rfl rfl ?_
          rw [zg_23]
          refine at_callV1 (d := D - 1) dX12_termOf_11 mv_X12_289 rfl (Nat.le_of_ble_eq_true rfl) (zq_r0 (by omega) (by omega) (by omega)) ?_
          refine zm_codeAt hR (by omega) ?_
          refine at_bipush dX12_termOf_14 (v := nI 42) (by decide) ?_
          refine at_callS1 (d := D - 1) dX12_termOf_16 ms_X12_245 (Nat.le_of_ble_eq_true rfl) (zq_r0 (by omega) (by omega) (by omega)) ?_
          refine zm_sign ?_
          refine at_eqN (tgt := 54) dX12_termOf_19 (by decide) (by omega) (by omega) (fun c19 => ?_) (fun c19 => ?_)
          · omega
          · refine at_aload_n dX12_termOf_22 rfl ?_
            refine at_aload_n dX12_termOf_23 rfl ?_
            refine at_get dX12_termOf_24 fl_X12_286 rfl rfl ?_
            rw [zg_23]
            refine at_callV1 (d := D - 1) dX12_termOf_27 mv_X12_289 rfl (Nat.le_of_ble_eq_true rfl) (zq_r0 (by omega) (by omega) (by omega)) ?_
            refine zm_codeAt hR (by omega) ?_
            refine at_bipush dX12_termOf_30 (v := nI 47) (by decide) ?_
            refine at_callS1 (d := D - 1) dX12_termOf_32 ms_X12_245 (Nat.le_of_ble_eq_true rfl) (zq_r0 (by omega) (by omega) (by omega)) ?_
            refine zm_sign ?_
            refine at_eqN (tgt := 54) dX12_termOf_35 (by decide) (by omega) (by omega) (fun c35 => ?_) (fun c35 => ?_)
            · omega
            · refine at_aload_n dX12_termOf_38 rfl ?_
              refine at_aload_n dX12_termOf_39 rfl ?_
              refine at_get dX12_termOf_40 fl_X12_286 rfl rfl ?_
              rw [zg_23]
              refine at_callV1 (d := D - 1) dX12_termOf_43 mv_X12_289 rfl (Nat.le_of_ble_eq_true rfl) (zq_r0 (by omega) (by omega) (by omega)) ?_
              refine zm_codeAt hR (by omega) ?_
              refine at_bipush dX12_termOf_46 (v := nI 37) (by decide) ?_
              refine at_callS1 (d := D - 1) dX12_termOf_48 ms_X12_245 (Nat.le_of_ble_eq_true rfl) (zq_r0 (by omega) (by omega) (by omega)) ?_
              refine zm_sign ?_
              refine at_neN (tgt := 168) dX12_termOf_51 (by decide) (by omega) (by omega) (fun c51 => ?_) (fun c51 => ?_)
              · omega
              · refine at_aload_n dX12_termOf_54 rfl ?_
                refine at_aload_n dX12_termOf_55 rfl ?_
                refine at_get dX12_termOf_56 fl_X12_286 rfl rfl ?_
                rw [zg_23]
                refine at_callV1 (d := D - 1) dX12_termOf_59 mv_X12_289 rfl (Nat.le_of_ble_eq_true rfl) (zq_r0 (by omega) (by omega) (by omega)) ?_
                refine zm_codeAt hR (by omega) ?_
                refine at_istore dX12_termOf_62 (by decide) ?_
                refine at_aload_n dX12_termOf_64 rfl ?_
                refine at_dup dX12_termOf_65 rfl ?_
                refine at_get dX12_termOf_66 fl_X12_286 rfl rfl ?_
                rw [zg_23]
                refine at_iconst dX12_termOf_69 (v := nI 1) (by decide) ?_
                refine at_iaddN dX12_termOf_70 ?_
                refine at_mput dX12_termOf_71 (pl_X12_286 _) (fun _ => ⟨_, rfl⟩) rfl rfl ?_
                rw [zg_s23, Nat.add_assoc]
                refine at_aload_n dX12_termOf_74 rfl ?_
                refine at_iload_n dX12_termOf_75 rfl ?_
                refine at_callV1 (d := D - 1) dX12_termOf_76 mv_X12_307 rfl (Nat.le_of_ble_eq_true rfl) (zq_r0 (by omega) (by omega) (by omega)) ?_
                refine HP t (j + 1) m lv _ _ ht ?_
                refine at_lstore dX12_termOf_79 (by decide) ?_
                refine at_iload dX12_termOf_81 rfl ?_
                refine at_bipush dX12_termOf_83 (v := nI 42) (by decide) ?_
                refine at_callS1 (d := D - 1) dX12_termOf_85 ms_X12_245 (Nat.le_of_ble_eq_true rfl) (zq_r0 (by omega) (by omega) (by omega)) ?_
                refine zm_sign ?_
                refine at_eqN (tgt := 121) dX12_termOf_88 (by decide) (by omega) (by omega) (fun c88 => ?_) (fun c88 => ?_)
                · omega
                · refine at_lload dX12_termOf_91 rfl ?_
                  refine at_lconst dX12_termOf_93 (v := 0) rfl ?_
                  refine at_lcmp dX12_termOf_94 ?_
                  refine at_if_ne (tgt := 121) dX12_termOf_95 (by decide) (fun c95 => ?_) (fun c95 => ?_)
                  · refine at_aload_n dX12_termOf_121 rfl ?_
                    refine at_iload dX12_termOf_122 rfl ?_
                    refine at_bipush dX12_termOf_124 (v := nI 42) (by decide) ?_
                    refine at_callS1 (d := D - 1) dX12_termOf_126 ms_X12_245 (Nat.le_of_ble_eq_true rfl) (zq_r0 (by omega) (by omega) (by omega)) ?_
                    refine zm_sign ?_
                    refine at_neN (tgt := 139) dX12_termOf_129 (by decide) (by omega) (by omega) (fun c129 => ?_) (fun c129 => ?_)
                    · refine at_iload dX12_termOf_139 rfl ?_
                      refine at_bipush dX12_termOf_141 (v := nI 47) (by decide) ?_
                      refine at_callS1 (d := D - 1) dX12_termOf_143 ms_X12_245 (Nat.le_of_ble_eq_true rfl) (zq_r0 (by omega) (by omega) (by omega)) ?_
                      refine zm_sign ?_
                      refine at_neN (tgt := 156) dX12_termOf_146 (by decide) (by omega) (by omega) (fun c146 => ?_) (fun c146 => ?_)
                      · refine at_lload_n dX12_termOf_156 rfl ?_
                        refine at_lload dX12_termOf_157 rfl ?_
                        refine at_lrem dX12_termOf_159 hz0 ?_
                        rw [zL_rem hva hvt]
                        refine at_iload_n dX12_termOf_160 rfl ?_
                        refine at_callV2 (d := D - 1) dX12_termOf_161 mv_X12_303 rfl (Nat.le_of_ble_eq_true rfl) (zq_r0 (by omega) (by omega) (by omega)) ?_
                        refine zm_bounded (by omega) (by omega) ?_
                        refine at_lstore_n dX12_termOf_164 rfl (by decide) ?_
                        refine at_goto (tgt := 6) dX12_termOf_165 (by decide) ?_
                        refine at_lv [0, 1, 2] ?_; exact hnx
                      · omega
                    · omega
                  · exact absurd ((lg_cmp_eq _ _).mp c95) hz0
theorem zm_termOf {D : Nat} {P : zX → Nat → Nat → Prop} (hD : 2 ≤ D) (hR : zRun σ B E cd vl o) (hI : zIn E P) (hB : zBn w P) (HP : zHV l G n B w σ ρ (D - 1) yX12_partOf P) : zHV l G n B w σ ρ D yX12_termOf (zSpTerm cd P) := by
  rintro e i j lv b post ⟨f, a, k, h1, h2⟩ hp
  refine zq_enter (cc := cX12_termOf) (nL := 7) (ret := (some .long)) cw_X12_termOf (by decide) rfl (Nat.le_of_ble_eq_true rfl) ?_
  refine at_aload_n dX12_termOf_0 rfl ?_
  refine at_iload_n dX12_termOf_1 rfl ?_
  refine at_callV1 (d := D - 1) dX12_termOf_2 mv_X12_307 rfl (Nat.le_of_ble_eq_true rfl) (zq_r0 (by omega) (by omega) (by omega)) ?_
  refine HP a i k lv b _ h1 ?_
  refine at_lstore_n dX12_termOf_5 rfl (by decide) ?_
  exact zm_termOf_loop hD hR hI hB HP f a e k j h2 (hI _ _ _ h1).2 (hB _ _ _ h1) hp
end ZL22

