/-! ===== the Model: a text's tokens ===== -/
def zsp (σ : zm_S) (C V P : Nat → Int32) (j : Nat) : zm_S := zm_si (zsA (zsA (zsA σ 80 C) 81 V) 82 P) 19 (nI j)
section ZSP
variable (σ : zm_S) (C V P : Nat → Int32) (j : Nat)
theorem zsp_19 : (zsp σ C V P j).1 19 = nI j := zsi_s _ _ _
theorem zsp_n (i : Nat) : zm_si (zsp σ C V P j) 19 (nI i) = zsp σ C V P i := zsi_si _ _ _ _
theorem zsp_80 : (zsp σ C V P j).2.1 80 = C := by simp [zsp, zsA, zm_si, va_up]
theorem zsp_81 : (zsp σ C V P j).2.1 81 = V := by simp [zsp, zsA, zm_si, va_up]
theorem zsp_82 : (zsp σ C V P j).2.1 82 = P := by simp [zsp, zsA, zm_si, va_up]
theorem zsp_78 : (zsp σ C V P j).2.1 78 = σ.2.1 78 := by simp [zsp, zsA, zm_si, va_up]
theorem zsp_77 : (zsp σ C V P j).2.1 77 = σ.2.1 77 := by simp [zsp, zsA, zm_si, va_up]
theorem zsp_p (i : Nat) (v : Int32) : zm_sa (zsp σ C V P j) 82 i v = zsp σ C V (upd P i v) j := by
  unfold zsp
  rw [zsi_sa, zsA_a]
theorem zsp_v (i : Nat) (v : Int32) : zm_sa (zsp σ C V P j) 81 i v = zsp σ C (upd V i v) P j := by
  unfold zsp
  rw [zsi_sa, zsA_sw _ (by decide), zsA_a]
theorem zsp_c (i : Nat) (v : Int32) : zm_sa (zsp σ C V P j) 80 i v = zsp σ (upd C i v) V P j := by
  unfold zsp
  rw [zsi_sa, zsA_sw _ (by decide), zsA_sw _ (by decide), zsA_a]
theorem zsp_0 : zsp σ (σ.2.1 80) (σ.2.1 81) (σ.2.1 82) j = zm_si σ 19 (nI j) := by
  unfold zsp
  rw [zsA_0, zsA_0, zsA_0]
end ZSP
theorem zrunF_all (P : Int32 → Bool) (T : Nat → Int32) : ∀ k i j, i ≤ j → j < zrunF P T k i → P (T j) = true
  | 0, i, j, h1, h2 => by unfold zrunF at h2; omega
  | k + 1, i, j, h1, h2 => by
    unfold zrunF at h2
    by_cases hp : P (T i) = true
    · rw [if_pos hp] at h2
      by_cases e : j = i
      · subst e; exact hp
      · exact zrunF_all P T k (i + 1) j (by omega) h2
    · rw [if_neg hp] at h2
      omega
theorem zrun_dg {T : Nat → Int32} {z k j : Nat} (hs : zsm (T k) = false) (hd : zdg (T k) = true) (h1 : k ≤ j) (h2 : j < zrun T z k) : zdg (T j) = true := by
  unfold zrun at h2
  rw [if_neg (by rw [hs]; decide), if_pos hd] at h2
  by_cases e : j = k
  · subst e; exact hd
  · exact zrunF_all zdg T _ _ j (by omega) h2
theorem zsm_dg {b : Int32} (h : zsm b = true) : zdg b = false := by
  obtain ⟨x, h1, h2, rfl⟩ := zlies_n (by decide) (by decide) h
  have h57 : ¬ nI x ≤ nI 57 := fun h => by have := (nI_leI (a := x) (b := 57) (by omega) (by decide)).mp h; omega
  unfold zdg
  rw [decide_eq_false h57, Bool.and_false]
section ZL17
variable {l : Launch} {G : zq_G} {D n : Nat} {σ : zm_S} {ρ : Nat → zq_E} {post : Option Value → Nat → (Nat → zq_E) → Prop} {C V P : Nat → Int32} {j : Nat}
theorem zm_sp_small {z k : Nat} {b : Int32} (hD : 1 ≤ D) (hz : z ≤ 400) (R : Nat) (hk : zq_At l G (zq_rm D 0 0) mX12_splits (zq_QF G post 0 0) 68 [(0, .ref 70), (1, .int (nI z)), (2, .int (nI k)), (3, .int b), (4, .int (nI R))] [] n (zm_h (zsp σ C V P j) ρ) 0 0) : ∀ r i : Nat, i + r = z → zrunF zsm (σ.2.1 78) r i = R → zq_At l G (zq_rm D 0 0) mX12_splits (zq_QF G post 0 0) 43 [(0, .ref 70), (1, .int (nI z)), (2, .int (nI k)), (3, .int b), (4, .int (nI i))] [] n (zm_h (zsp σ C V P j) ρ) 0 0 := by
  intro r
  induction r with
  | zero =>
    intro i hi hR
    obtain rfl : i = z := hi
    obtain rfl : i = R := hR
    refine at_iload dX12_splits_43 rfl ?_
    refine at_iload_n dX12_splits_45 rfl ?_
    refine at_geN (tgt := 68) dX12_splits_46 (by decide) (by omega) (by omega) (fun c46 => ?_) (fun c46 => ?_)
    · exact hk
    · omega
  | succ r ih =>
    intro i hi hR
    unfold zrunF at hR
    refine at_iload dX12_splits_43 rfl ?_
    refine at_iload_n dX12_splits_45 rfl ?_
    refine at_geN (tgt := 68) dX12_splits_46 (by decide) (by omega) (by omega) (fun c46 => ?_) (fun c46 => ?_)
    · omega
    · refine at_aload_n dX12_splits_49 rfl ?_
      refine at_get dX12_splits_50 fl_X12_62 rfl rfl ?_
      refine at_iload dX12_splits_53 rfl ?_
      refine at_mbald (a := 78) dX12_splits_55 (by decide) (by decide) (by decide) (by decide) rfl rfl (by show _ < 400; omega) (by decide) ?_
      rw [zsp_78]
      refine at_callS1 (d := D - 1) dX12_splits_56 ms_X12_187 (Nat.le_of_ble_eq_true rfl) (zq_r0 (by omega) (by omega) (by omega)) ?_
      refine zm_isSmall ?_
      refine at_if_eqB (tgt := 68) dX12_splits_59 (by decide) (fun c59 => ?_) (fun c59 => ?_)
      · rw [if_neg (by rw [c59]; decide)] at hR
        subst hR
        exact hk
      · rw [if_pos c59] at hR
        refine at_iincN dX12_splits_62 rfl (by decide) ?_
        refine at_goto (tgt := 43) dX12_splits_65 (by decide) ?_
        exact ih (i + 1) (by omega) hR
theorem zm_sp_digit {z k : Nat} {b : Int32} (hD : 1 ≤ D) (hz : z ≤ 400) (R : Nat) (hk : zq_At l G (zq_rm D 0 0) mX12_splits (zq_QF G post 0 0) 100 [(0, .ref 70), (1, .int (nI z)), (2, .int (nI k)), (3, .int b), (4, .int (nI R))] [] n (zm_h (zsp σ C V P j) ρ) 0 0) : ∀ r i : Nat, i + r = z → zrunF zdg (σ.2.1 78) r i = R → zq_At l G (zq_rm D 0 0) mX12_splits (zq_QF G post 0 0) 75 [(0, .ref 70), (1, .int (nI z)), (2, .int (nI k)), (3, .int b), (4, .int (nI i))] [] n (zm_h (zsp σ C V P j) ρ) 0 0 := by
  intro r
  induction r with
  | zero =>
    intro i hi hR
    obtain rfl : i = z := hi
    obtain rfl : i = R := hR
    refine at_iload dX12_splits_75 rfl ?_
    refine at_iload_n dX12_splits_77 rfl ?_
    refine at_geN (tgt := 100) dX12_splits_78 (by decide) (by omega) (by omega) (fun c78 => ?_) (fun c78 => ?_)
    · exact hk
    · omega
  | succ r ih =>
    intro i hi hR
    unfold zrunF at hR
    refine at_iload dX12_splits_75 rfl ?_
    refine at_iload_n dX12_splits_77 rfl ?_
    refine at_geN (tgt := 100) dX12_splits_78 (by decide) (by omega) (by omega) (fun c78 => ?_) (fun c78 => ?_)
    · omega
    · refine at_aload_n dX12_splits_81 rfl ?_
      refine at_get dX12_splits_82 fl_X12_62 rfl rfl ?_
      refine at_iload dX12_splits_85 rfl ?_
      refine at_mbald (a := 78) dX12_splits_87 (by decide) (by decide) (by decide) (by decide) rfl rfl (by show _ < 400; omega) (by decide) ?_
      rw [zsp_78]
      refine at_callS1 (d := D - 1) dX12_splits_88 ms_X12_190 (Nat.le_of_ble_eq_true rfl) (zq_r0 (by omega) (by omega) (by omega)) ?_
      refine zm_isDigit ?_
      refine at_if_eqB (tgt := 100) dX12_splits_91 (by decide) (fun c91 => ?_) (fun c91 => ?_)
      · rw [if_neg (by rw [c91]; decide)] at hR
        subst hR
        exact hk
      · rw [if_pos c91] at hR
        refine at_iincN dX12_splits_94 rfl (by decide) ?_
        refine at_goto (tgt := 75) dX12_splits_97 (by decide) ?_
        exact ih (i + 1) (by omega) hR
theorem zm_sp_num {z k e : Nat} {b : Int32} (hD : 1 ≤ D) (he : e ≤ 400) (hb : zdg b = true) (hj : j < 401) (hdg : ∀ i, k ≤ i → i < e → zdg (σ.2.1 78 i) = true) (X : Nat) (hk : ∀ V', V' j = nI X → (∀ i, i ≠ j → V' i = V i) → zq_At l G (zq_rm D 0 0) mX12_splits (zq_QF G post 0 0) 247 [(0, .ref 70), (1, .int (nI z)), (2, .int (nI k)), (3, .int b), (4, .int (nI e))] [] n (zm_h (zsp σ C V' P j) ρ) 0 0) : ∀ (r i x : Nat) (V' : Nat → Int32), i + r = e → k ≤ i → x < 10000020 → V' j = nI x → (∀ i, i ≠ j → V' i = V i) → znumF (σ.2.1 78) r i x = X → zq_At l G (zq_rm D 0 0) mX12_splits (zq_QF G post 0 0) 169 [(0, .ref 70), (1, .int (nI z)), (2, .int (nI k)), (3, .int b), (4, .int (nI e)), (5, .int (nI i))] [] n (zm_h (zsp σ C V' P j) ρ) 0 0 := by
  intro r
  induction r with
  | zero =>
    intro i x V' hi hki hx h1 h2 hX
    obtain rfl : i = e := hi
    obtain rfl : x = X := hX
    refine at_iload dX12_splits_169 rfl ?_
    refine at_iload dX12_splits_171 rfl ?_
    refine at_geN (tgt := 247) dX12_splits_173 (by decide) (by omega) (by omega) (fun c173 => ?_) (fun c173 => ?_)
    · exact at_lv [0, 1, 2, 3, 4] (hk V' h1 h2)
    · omega
  | succ r ih =>
    intro i x V' hi hki hx h1 h2 hX
    unfold znumF at hX
    obtain ⟨y, y1, y2, hy⟩ := zlies_n (by decide) (by decide) (hdg i hki (by omega))
    rw [hy, nI_clamp (by omega)] at hX
    refine at_iload dX12_splits_169 rfl ?_
    refine at_iload dX12_splits_171 rfl ?_
    refine at_geN (tgt := 247) dX12_splits_173 (by decide) (by omega) (by omega) (fun c173 => ?_) (fun c173 => ?_)
    · omega
    · refine at_iload_n dX12_splits_176 rfl ?_
      refine at_callS1 (d := D - 1) dX12_splits_177 ms_X12_190 (Nat.le_of_ble_eq_true rfl) (zq_r0 (by omega) (by omega) (by omega)) ?_
      refine zm_isDigit ?_
      rw [hb]
      refine at_if_eqB (tgt := 247) dX12_splits_180 (by decide) (fun c180 => ?_) (fun c180 => ?_)
      · cases c180
      · refine at_aload_n dX12_splits_183 rfl ?_
        refine at_get dX12_splits_184 fl_X12_74 rfl rfl ?_
        refine at_aload_n dX12_splits_187 rfl ?_
        refine at_get dX12_splits_188 fl_X12_184 rfl rfl ?_
        rw [zsp_19]
        refine at_aload_n dX12_splits_191 rfl ?_
        refine at_get dX12_splits_192 fl_X12_74 rfl rfl ?_
        refine at_aload_n dX12_splits_195 rfl ?_
        refine at_get dX12_splits_196 fl_X12_184 rfl rfl ?_
        rw [zsp_19]
        refine at_mald (a := 81) dX12_splits_199 (by decide) (by decide) (by decide) (by decide) rfl rfl (by show _ < 401; omega) (by decide) ?_
        rw [zsp_81, h1]
        refine at_ldc dX12_splits_200 (v := nI 1000000) kc_X12_196 ?_
        refine at_leN (tgt := 217) dX12_splits_202 (by decide) (by omega) (by omega) (fun c202 => ?_) (fun c202 => ?_)
        · rw [if_neg (by omega)] at hX
          refine at_bipush dX12_splits_217 (v := nI 10) (by decide) ?_
          refine at_aload_n dX12_splits_219 rfl ?_
          refine at_get dX12_splits_220 fl_X12_74 rfl rfl ?_
          refine at_aload_n dX12_splits_223 rfl ?_
          refine at_get dX12_splits_224 fl_X12_184 rfl rfl ?_
          rw [zsp_19]
          refine at_mald (a := 81) dX12_splits_227 (by decide) (by decide) (by decide) (by decide) rfl rfl (by show _ < 401; omega) (by decide) ?_
          rw [zsp_81, h1]
          refine at_imulN dX12_splits_228 ?_
          refine at_aload_n dX12_splits_229 rfl ?_
          refine at_get dX12_splits_230 fl_X12_62 rfl rfl ?_
          refine at_iload dX12_splits_233 rfl ?_
          refine at_mbald (a := 78) dX12_splits_235 (by decide) (by decide) (by decide) (by decide) rfl rfl (by show _ < 400; omega) (by decide) ?_
          rw [zsp_78, hy]
          refine at_iaddN dX12_splits_236 ?_
          refine at_bipush dX12_splits_237 (v := nI 48) (by decide) ?_
          refine at_isubN dX12_splits_239 (by omega) ?_
          refine at_mast (a := 81) dX12_splits_240 (by decide) (by decide) (by decide) (by decide) rfl rfl (by show _ < 401; omega) (by decide) ?_
          rw [zsp_v]
          refine at_iincN dX12_splits_241 rfl (by decide) ?_
          refine at_goto (tgt := 169) dX12_splits_244 (by decide) ?_
          refine ih (i + 1) (10 * x + (y - 48)) _ (by omega) (by omega) (by omega) ?_ (fun a ha => ?_) hX
          · rw [upd_s]; congr 1; omega
          · rw [upd_o _ ha]; exact h2 a ha
        · rw [if_pos c202] at hX
          refine at_aload_n dX12_splits_205 rfl ?_
          refine at_get dX12_splits_206 fl_X12_74 rfl rfl ?_
          refine at_aload_n dX12_splits_209 rfl ?_
          refine at_get dX12_splits_210 fl_X12_184 rfl rfl ?_
          rw [zsp_19]
          refine at_mald (a := 81) dX12_splits_213 (by decide) (by decide) (by decide) (by decide) rfl rfl (by show _ < 401; omega) (by decide) ?_
          rw [zsp_81, h1]
          refine at_goto (tgt := 240) dX12_splits_214 (by decide) ?_
          refine at_mast (a := 81) dX12_splits_240 (by decide) (by decide) (by decide) (by decide) rfl rfl (by show _ < 401; omega) (by decide) ?_
          rw [zsp_v]
          refine at_iincN dX12_splits_241 rfl (by decide) ?_
          refine at_goto (tgt := 169) dX12_splits_244 (by decide) ?_
          refine ih (i + 1) x _ (by omega) (by omega) hx (upd_s _ _ _) (fun a ha => ?_) hX
          rw [upd_o _ ha]; exact h2 a ha
/-- the rows of codes, values, places hold these tokens -/
def zTr (T : Nat → Int32) (C V P : Nat → Int32) (L : List (Nat × Nat)) : Prop := ∀ i (q : Nat × Nat), L[i]? = some q → C i = nI (zcode T q.1 q.2) ∧ V i = nI (zval T q.1 q.2) ∧ P i = nI q.1
theorem zTr_add {T C V P C' V' P' : Nat → Int32} {L : List (Nat × Nat)} {q : Nat × Nat} (h : zTr T C V P L) (h1 : ∀ i, i < L.length → C' i = C i ∧ V' i = V i ∧ P' i = P i) (h2 : C' L.length = nI (zcode T q.1 q.2) ∧ V' L.length = nI (zval T q.1 q.2) ∧ P' L.length = nI q.1) : zTr T C' V' P' (L ++ [q]) := by
  intro i r hr
  rcases Nat.lt_or_ge i L.length with hi | hi
  · rw [List.getElem?_append_left hi] at hr
    obtain ⟨a, b, c⟩ := h1 i hi
    rw [a, b, c]
    exact h i r hr
  · rw [List.getElem?_append_right hi] at hr
    have hz : i - L.length < 1 := (List.getElem?_eq_some_iff.mp hr).1
    rw [show i - L.length = 0 by omega] at hr
    cases hr
    rw [show i = L.length by omega]
    exact h2
theorem zm_sp_store {z k e : Nat} {L : List (Nat × Nat)} (hD : 1 ≤ D) (hw : zWr σ) (hz : z ≤ 400) (hke : k < e) (hez : e ≤ z) (he : e = zrun (σ.2.1 78) z k) (hL : L.length ≤ k) (hT : zTr (σ.2.1 78) C V P L)
    (hk : ∀ C' V' P', zTr (σ.2.1 78) C' V' P' (L ++ [(k, e)]) → zq_At l G (zq_rm D 0 0) mX12_splits (zq_QF G post 0 0) 7 [(0, .ref 70), (1, .int (nI z)), (2, .int (nI e))] [] n (zm_h (zsp σ C' V' P' (L.length + 1)) ρ) 0 0) : zq_At l G (zq_rm D 0 0) mX12_splits (zq_QF G post 0 0) 100 [(0, .ref 70), (1, .int (nI z)), (2, .int (nI k)), (3, .int (σ.2.1 78 k)), (4, .int (nI e))] [] n (zm_h (zsp σ C V P L.length) ρ) 0 0 := by
  have hw2 : ∀ C V P j, zWr (zsp σ C V P j) := fun C V P j => by unfold zWr; rw [zsp_77]; exact hw
  have h247 : ∀ C' V' P', zTr (σ.2.1 78) C' V' P' (L ++ [(k, e)]) → zq_At l G (zq_rm D 0 0) mX12_splits (zq_QF G post 0 0) 247 [(0, .ref 70), (1, .int (nI z)), (2, .int (nI k)), (3, .int (σ.2.1 78 k)), (4, .int (nI e))] [] n (zm_h (zsp σ C' V' P' L.length) ρ) 0 0 := by
    intro C' V' P' h'
    refine at_aload_n dX12_splits_247 rfl ?_
    refine at_dup dX12_splits_248 rfl ?_
    refine at_get dX12_splits_249 fl_X12_184 rfl rfl ?_
    rw [zsp_19]
    refine at_iconst dX12_splits_252 (v := nI 1) (by decide) ?_
    refine at_iaddN dX12_splits_253 ?_
    refine at_mput dX12_splits_254 (pl_X12_184 _) (fun _ => ⟨_, rfl⟩) rfl rfl ?_
    rw [zsp_n]
    refine at_iload dX12_splits_257 rfl ?_
    refine at_istore_n dX12_splits_259 rfl (by decide) ?_
    refine at_goto (tgt := 7) dX12_splits_260 (by decide) ?_
    exact at_lv [0, 1, 2] (hk C' V' P' h')
  have h166 : ∀ X, X = zcode (σ.2.1 78) k e → zq_At l G (zq_rm D 0 0) mX12_splits (zq_QF G post 0 0) 166 [(0, .ref 70), (1, .int (nI z)), (2, .int (nI k)), (3, .int (σ.2.1 78 k)), (4, .int (nI e))] [] n (zm_h (zsp σ (upd C L.length (nI X)) (upd V L.length (nI 0)) (upd P L.length (nI k)) L.length) ρ) 0 0 := by
    intro X hX
    cases hd : zdg (σ.2.1 78 k) with
    | false =>
      have hfin := h247 (upd C L.length (nI X)) (upd V L.length (nI 0)) (upd P L.length (nI k)) (zTr_add hT (fun i hi => ⟨upd_o _ (by omega) _, upd_o _ (by omega) _, upd_o _ (by omega) _⟩) ⟨by rw [upd_s, hX], by rw [upd_s]; unfold zval; rw [hd, if_neg (by decide)], by rw [upd_s]⟩)
      refine at_iload_n dX12_splits_166 rfl ?_
      refine at_istore dX12_splits_167 (by decide) ?_
      refine at_iload dX12_splits_169 rfl ?_
      refine at_iload dX12_splits_171 rfl ?_
      refine at_geN (tgt := 247) dX12_splits_173 (by decide) (by omega) (by omega) (fun c173 => ?_) (fun c173 => ?_)
      · omega
      · refine at_iload_n dX12_splits_176 rfl ?_
        refine at_callS1 (d := D - 1) dX12_splits_177 ms_X12_190 (Nat.le_of_ble_eq_true rfl) (zq_r0 (by omega) (by omega) (by omega)) ?_
        refine zm_isDigit ?_
        rw [hd]
        refine at_if_eqB (tgt := 247) dX12_splits_180 (by decide) (fun c180 => ?_) (fun c180 => ?_)
        · exact at_lv [0, 1, 2, 3, 4] hfin
        · cases c180
    | true =>
      have hs : zsm (σ.2.1 78 k) = false := by
        cases h : zsm (σ.2.1 78 k) with
        | false => rfl
        | true => rw [zsm_dg h] at hd; cases hd
      have h0 := zm_sp_num (l := l) (G := G) (D := D) (n := n) (σ := σ) (ρ := ρ) (post := post) (C := upd C L.length (nI X)) (P := upd P L.length (nI k)) (V := V) (j := L.length) (z := z) (k := k) (e := e) (b := σ.2.1 78 k) hD (by omega) hd (by omega) (fun i h1 h2 => zrun_dg hs hd h1 (by rw [← he]; exact h2)) (zval (σ.2.1 78) k e) (fun V' g1 g2 => h247 _ V' _ (zTr_add hT (fun i hi => ⟨upd_o _ (by omega) _, g2 i (by omega), upd_o _ (by omega) _⟩) ⟨by rw [upd_s, hX], g1, by rw [upd_s]⟩)) (e - k) k 0 (upd V L.length (nI 0)) (by omega) (Nat.le_refl _) (by decide) (upd_s _ _ _) (fun i hi => upd_o _ hi _) (by unfold zval; rw [hd, if_pos rfl])
      refine at_iload_n dX12_splits_166 rfl ?_
      refine at_istore dX12_splits_167 (by decide) ?_
      exact h0
  refine at_aload_n dX12_splits_100 rfl ?_
  refine at_get dX12_splits_101 fl_X12_77 rfl rfl ?_
  refine at_aload_n dX12_splits_104 rfl ?_
  refine at_get dX12_splits_105 fl_X12_184 rfl rfl ?_
  rw [zsp_19]
  refine at_iload_n dX12_splits_108 rfl ?_
  refine at_mast (a := 82) dX12_splits_109 (by decide) (by decide) (by decide) (by decide) rfl rfl (by show _ < 401; omega) (by decide) ?_
  rw [zsp_p]
  refine at_aload_n dX12_splits_110 rfl ?_
  refine at_get dX12_splits_111 fl_X12_74 rfl rfl ?_
  refine at_aload_n dX12_splits_114 rfl ?_
  refine at_get dX12_splits_115 fl_X12_184 rfl rfl ?_
  rw [zsp_19]
  refine at_iconst dX12_splits_118 (v := nI 0) (by decide) ?_
  refine at_mast (a := 81) dX12_splits_119 (by decide) (by decide) (by decide) (by decide) rfl rfl (by show _ < 401; omega) (by decide) ?_
  rw [zsp_v]
  refine at_aload_n dX12_splits_120 rfl ?_
  refine at_get dX12_splits_121 fl_X12_71 rfl rfl ?_
  refine at_aload_n dX12_splits_124 rfl ?_
  refine at_get dX12_splits_125 fl_X12_184 rfl rfl ?_
  rw [zsp_19]
  refine at_iload_n dX12_splits_128 rfl ?_
  refine at_callS1 (d := D - 1) dX12_splits_129 ms_X12_187 (Nat.le_of_ble_eq_true rfl) (zq_r0 (by omega) (by omega) (by omega)) ?_
  refine zm_isSmall ?_
  refine at_if_eqB (tgt := 145) dX12_splits_132 (by decide) (fun c132 => ?_) (fun c132 => ?_)
  · refine at_iload_n dX12_splits_145 rfl ?_
    refine at_callS1 (d := D - 1) dX12_splits_146 ms_X12_190 (Nat.le_of_ble_eq_true rfl) (zq_r0 (by omega) (by omega) (by omega)) ?_
    refine zm_isDigit ?_
    refine at_if_eqB (tgt := 157) dX12_splits_149 (by decide) (fun c149 => ?_) (fun c149 => ?_)
    · have hX := h166 (100 + (σ.2.1 78 k).toBitVec.toNat % 256) (by unfold zcode; rw [if_neg (by rw [c132]; decide), if_neg (by rw [c149]; decide)])
      refine at_bipush dX12_splits_157 (v := nI 100) (by decide) ?_
      refine at_iload_n dX12_splits_159 rfl ?_
      refine at_sipush dX12_splits_160 (v := nI 255) (by decide) ?_
      refine at_iand dX12_splits_163 ?_
      rw [show σ.2.1 78 k &&& nI 255 = nI ((σ.2.1 78 k).toBitVec.toNat % 256) from pk_and _ 8 (by decide)]
      refine at_iaddN dX12_splits_164 ?_
      refine at_mast (a := 80) dX12_splits_165 (by decide) (by decide) (by decide) (by decide) rfl rfl (by show _ < 401; omega) (by decide) ?_
      rw [zsp_c]
      exact hX
    · have hX := h166 50 (by unfold zcode; rw [if_neg (by rw [c132]; decide), if_pos c149])
      refine at_bipush dX12_splits_152 (v := nI 50) (by decide) ?_
      refine at_goto (tgt := 165) dX12_splits_154 (by decide) ?_
      refine at_mast (a := 80) dX12_splits_165 (by decide) (by decide) (by decide) (by decide) rfl rfl (by show _ < 401; omega) (by decide) ?_
      rw [zsp_c]
      exact hX
  · have hX := h166 (zword (σ.2.1 78) k e zMw 1) (by unfold zcode; rw [if_pos c132])
    refine at_aload_n dX12_splits_135 rfl ?_
    refine at_iload_n dX12_splits_136 rfl ?_
    refine at_iload dX12_splits_137 rfl ?_
    refine at_callV2 (d := D - 1) dX12_splits_139 mv_X12_193 rfl (Nat.le_of_ble_eq_true rfl) (zq_r0 (by omega) (by omega) (by omega)) ?_
    refine zm_wordOf (hw2 _ _ _ _) (by omega) (by omega) ?_
    rw [zsp_78]
    refine at_goto (tgt := 165) dX12_splits_142 (by decide) ?_
    refine at_mast (a := 80) dX12_splits_165 (by decide) (by decide) (by decide) (by decide) rfl rfl (by show _ < 401; omega) (by decide) ?_
    rw [zsp_c]
    exact hX
theorem zm_sp_loop {z : Nat} (hD : 1 ≤ D) (hw : zWr σ) (hz : z ≤ 400) (A : List (Nat × Nat)) (hk : ∀ C' V' P', zTr (σ.2.1 78) C' V' P' A → A.length ≤ z → zq_At l G (zq_rm D 0 0) mX12_splits (zq_QF G post 0 0) 263 [(0, .ref 70), (1, .int (nI z))] [] n (zm_h (zsp σ C' V' P' A.length) ρ) 0 0) : ∀ (f k : Nat) (L : List (Nat × Nat)) (C V P : Nat → Int32), z < k + f → k ≤ z → L.length ≤ k → zTr (σ.2.1 78) C V P L → L ++ ztok (σ.2.1 78) z f k = A → zq_At l G (zq_rm D 0 0) mX12_splits (zq_QF G post 0 0) 7 [(0, .ref 70), (1, .int (nI z)), (2, .int (nI k))] [] n (zm_h (zsp σ C V P L.length) ρ) 0 0 := by
  intro f
  induction f with
  | zero => intro k L C V P h1 h2; omega
  | succ f ih =>
    intro k L C V P h1 h2 hL hT hA
    unfold ztok at hA
    by_cases hzk : z ≤ k
    · rw [if_pos hzk, List.append_nil] at hA
      subst hA
      refine at_iload_n dX12_splits_7 rfl ?_
      refine at_iload_n dX12_splits_8 rfl ?_
      refine at_geN (tgt := 263) dX12_splits_9 (by decide) (by omega) (by omega) (fun c9 => ?_) (fun c9 => ?_)
      · exact at_lv [0, 1] (hk C V P hT (by omega))
      · omega
    · rw [if_neg hzk] at hA
      by_cases hb : σ.2.1 78 k = nI 32
      · rw [if_pos hb] at hA
        refine at_iload_n dX12_splits_7 rfl ?_
        refine at_iload_n dX12_splits_8 rfl ?_
        refine at_geN (tgt := 263) dX12_splits_9 (by decide) (by omega) (by omega) (fun c9 => ?_) (fun c9 => ?_)
        · omega
        · refine at_aload_n dX12_splits_12 rfl ?_
          refine at_get dX12_splits_13 fl_X12_62 rfl rfl ?_
          refine at_iload_n dX12_splits_16 rfl ?_
          refine at_mbald (a := 78) dX12_splits_17 (by decide) (by decide) (by decide) (by decide) rfl rfl (by show _ < 400; omega) (by decide) ?_
          rw [zsp_78]
          refine at_istore_n dX12_splits_18 rfl (by decide) ?_
          refine at_iload_n dX12_splits_19 rfl ?_
          refine at_bipush dX12_splits_20 (v := nI 32) (by decide) ?_
          refine at_icmp_ne (tgt := 31) dX12_splits_22 (by decide) (fun c22 => ?_) (fun c22 => ?_)
          · exact absurd hb c22
          · refine at_iincN dX12_splits_25 rfl (by decide) ?_
            refine at_goto (tgt := 7) dX12_splits_28 (by decide) ?_
            exact at_lv [0, 1, 2] (ih (k + 1) L C V P (by omega) (by omega) (by omega) hT hA)
      · rw [if_neg hb] at hA
        have hr := zrun_le (σ.2.1 78) (show k < z by omega)
        have hst := zm_sp_store (l := l) (G := G) (D := D) (n := n) (σ := σ) (ρ := ρ) (post := post) (C := C) (V := V) (P := P) (z := z) (k := k) (e := zrun (σ.2.1 78) z k) (L := L) hD hw hz (by omega) hr.2 rfl hL hT (fun C' V' P' h' => by
          have := ih (zrun (σ.2.1 78) z k) (L ++ [(k, zrun (σ.2.1 78) z k)]) C' V' P' (by omega) hr.2 (by rw [List.length_append]; show L.length + 1 ≤ _; omega) h' (by rw [List.append_assoc]; exact hA)
          rw [List.length_append] at this
          exact this)
        have hrun : zrun (σ.2.1 78) z k = if zsm (σ.2.1 78 k) = true then zrunF zsm (σ.2.1 78) (z - (k + 1)) (k + 1) else if zdg (σ.2.1 78 k) = true then zrunF zdg (σ.2.1 78) (z - (k + 1)) (k + 1) else k + 1 := rfl
        have h68 : ∀ e, e = zrun (σ.2.1 78) z k → zsm (σ.2.1 78 k) = true → zq_At l G (zq_rm D 0 0) mX12_splits (zq_QF G post 0 0) 68 [(0, .ref 70), (1, .int (nI z)), (2, .int (nI k)), (3, .int (σ.2.1 78 k)), (4, .int (nI e))] [] n (zm_h (zsp σ C V P L.length) ρ) 0 0 := by
          intro e he hs
          subst he
          refine at_iload_n dX12_splits_68 rfl ?_
          refine at_callS1 (d := D - 1) dX12_splits_69 ms_X12_190 (Nat.le_of_ble_eq_true rfl) (zq_r0 (by omega) (by omega) (by omega)) ?_
          refine zm_isDigit ?_
          rw [zsm_dg hs]
          refine at_if_eqB (tgt := 100) dX12_splits_72 (by decide) (fun c72 => ?_) (fun c72 => ?_)
          · exact hst
          · cases c72
        refine at_iload_n dX12_splits_7 rfl ?_
        refine at_iload_n dX12_splits_8 rfl ?_
        refine at_geN (tgt := 263) dX12_splits_9 (by decide) (by omega) (by omega) (fun c9 => ?_) (fun c9 => ?_)
        · omega
        · refine at_aload_n dX12_splits_12 rfl ?_
          refine at_get dX12_splits_13 fl_X12_62 rfl rfl ?_
          refine at_iload_n dX12_splits_16 rfl ?_
          refine at_mbald (a := 78) dX12_splits_17 (by decide) (by decide) (by decide) (by decide) rfl rfl (by show _ < 400; omega) (by decide) ?_
          rw [zsp_78]
          refine at_istore_n dX12_splits_18 rfl (by decide) ?_
          refine at_iload_n dX12_splits_19 rfl ?_
          refine at_bipush dX12_splits_20 (v := nI 32) (by decide) ?_
          refine at_icmp_ne (tgt := 31) dX12_splits_22 (by decide) (fun c22 => ?_) (fun c22 => ?_)
          · refine at_iload_n dX12_splits_31 rfl ?_
            refine at_iconst dX12_splits_32 (v := nI 1) (by decide) ?_
            refine at_iaddN dX12_splits_33 ?_
            refine at_istore dX12_splits_34 (by decide) ?_
            refine at_iload_n dX12_splits_36 rfl ?_
            refine at_callS1 (d := D - 1) dX12_splits_37 ms_X12_187 (Nat.le_of_ble_eq_true rfl) (zq_r0 (by omega) (by omega) (by omega)) ?_
            refine zm_isSmall ?_
            refine at_if_eqB (tgt := 68) dX12_splits_40 (by decide) (fun c40 => ?_) (fun c40 => ?_)
            · rw [if_neg (by rw [c40]; decide)] at hrun
              refine at_iload_n dX12_splits_68 rfl ?_
              refine at_callS1 (d := D - 1) dX12_splits_69 ms_X12_190 (Nat.le_of_ble_eq_true rfl) (zq_r0 (by omega) (by omega) (by omega)) ?_
              refine zm_isDigit ?_
              refine at_if_eqB (tgt := 100) dX12_splits_72 (by decide) (fun c72 => ?_) (fun c72 => ?_)
              · rw [if_neg (by rw [c72]; decide)] at hrun
                rw [hrun] at hst
                exact at_lv [0, 1, 2, 3, 4] hst
              · rw [if_pos c72] at hrun
                exact at_lv [0, 1, 2, 3, 4] (zm_sp_digit hD hz (zrun (σ.2.1 78) z k) hst (z - (k + 1)) (k + 1) (by omega) hrun.symm)
            · rw [if_pos c40] at hrun
              exact at_lv [0, 1, 2, 3, 4] (zm_sp_small hD hz (zrun (σ.2.1 78) z k) (h68 _ rfl c40) (z - (k + 1)) (k + 1) (by omega) hrun.symm)
          · exact absurd c22 hb
/-- all tokens of a tape of z bytes -/
def zTok (T : Nat → Int32) (z : Nat) : List (Nat × Nat) := ztok T z 401 0
theorem zm_splits {z : Nat} (hD : 2 ≤ D) (hw : zWr σ) (hz : z ≤ 400) (hp : ∀ C' V' P', zTr (σ.2.1 78) C' V' P' (zTok (σ.2.1 78) z) → (zTok (σ.2.1 78) z).length ≤ z → C' (zTok (σ.2.1 78) z).length = nI 0 → V' (zTok (σ.2.1 78) z).length = nI 0 → P' (zTok (σ.2.1 78) z).length = nI z → post none n (zm_h (zsp σ C' V' P' (zTok (σ.2.1 78) z).length) ρ)) : zq_Runs l G D 0 0 yX12_splits [.ref 70, .int (nI z)] n (zm_h σ ρ) post := by
  have h0 := zm_sp_loop (l := l) (G := G) (D := D) (n := n) (σ := σ) (ρ := ρ) (post := post) (z := z) (by omega) hw hz (zTok (σ.2.1 78) z) (fun C' V' P' hT hl => by
    have hk := fun C2 V2 P2 g1 g2 g3 g4 => hp C2 V2 P2 g1 hl g2 g3 g4
    generalize hN : (zTok (σ.2.1 78) z).length = N at hk hl
    refine at_aload_n dX12_splits_263 rfl ?_
    refine at_get dX12_splits_264 fl_X12_77 rfl rfl ?_
    refine at_aload_n dX12_splits_267 rfl ?_
    refine at_get dX12_splits_268 fl_X12_184 rfl rfl ?_
    rw [zsp_19]
    refine at_iload_n dX12_splits_271 rfl ?_
    refine at_mast (a := 82) dX12_splits_272 (by decide) (by decide) (by decide) (by decide) rfl rfl (by show _ < 401; omega) (by decide) ?_
    rw [zsp_p]
    refine at_aload_n dX12_splits_273 rfl ?_
    refine at_get dX12_splits_274 fl_X12_71 rfl rfl ?_
    refine at_aload_n dX12_splits_277 rfl ?_
    refine at_get dX12_splits_278 fl_X12_184 rfl rfl ?_
    rw [zsp_19]
    refine at_iconst dX12_splits_281 (v := nI 0) (by decide) ?_
    refine at_mast (a := 80) dX12_splits_282 (by decide) (by decide) (by decide) (by decide) rfl rfl (by show _ < 401; omega) (by decide) ?_
    rw [zsp_c]
    refine at_aload_n dX12_splits_283 rfl ?_
    refine at_get dX12_splits_284 fl_X12_74 rfl rfl ?_
    refine at_aload_n dX12_splits_287 rfl ?_
    refine at_get dX12_splits_288 fl_X12_184 rfl rfl ?_
    rw [zsp_19]
    refine at_iconst dX12_splits_291 (v := nI 0) (by decide) ?_
    refine at_mast (a := 81) dX12_splits_292 (by decide) (by decide) (by decide) (by decide) rfl rfl (by show _ < 401; omega) (by decide) ?_
    rw [zsp_v]
    refine at_vret dX12_splits_293 rfl (by omega) (by omega) ?_
    refine hk _ _ _ (fun i q hq => ?_) (upd_s _ _ _) (upd_s _ _ _) (upd_s _ _ _)
    have hi : i < N := by rw [← hN]; exact (List.getElem?_eq_some_iff.mp hq).1
    rw [upd_o _ (by omega), upd_o _ (by omega), upd_o _ (by omega)]
    exact hT i q hq
    ) 401 0 [] (σ.2.1 80) (σ.2.1 81) (σ.2.1 82) (by omega) (Nat.zero_le _) (Nat.le_refl _) (fun i q h => by simp at h) rfl
  rw [show ([] : List (Nat × Nat)).length = 0 from rfl, zsp_0] at h0
  refine zq_enter (cc := cX12_splits) (nL := 6) (ret := none) cw_X12_splits (by decide) rfl (Nat.le_of_ble_eq_true rfl) ?_
  refine at_aload_n dX12_splits_0 rfl ?_
  refine at_iconst dX12_splits_1 (v := nI 0) (by decide) ?_
  refine at_mput dX12_splits_2 (pl_X12_184 _) (fun _ => ⟨_, rfl⟩) rfl rfl ?_
  refine at_iconst dX12_splits_5 (v := nI 0) (by decide) ?_
  refine at_istore_n dX12_splits_6 rfl (by decide) ?_
  exact h0
end ZL17

