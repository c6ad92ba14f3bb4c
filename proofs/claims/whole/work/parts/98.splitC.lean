/-! ===== the class: a tape's tokens ===== -/
section ZC44
variable {l : Launch} {G : zq_G} {D n : Nat} {ρ : Nat → zq_E} {post : Option Value → Nat → (Nat → zq_E) → Prop} {κ : zl_S}
/-- a token's number -/
def ztk (T : Nat → Int32) (q : Nat × Nat) : Int32 := ztkn T q.1 q.2 (zwm (zword T q.1 q.2 zMw 1))
/-- alike but for the rows of tokens -/
def zSf (κ' κ : zl_S) : Prop := κ'.1 = κ.1 ∧ (∀ a, a ≠ 49 → a ≠ 50 → κ'.2.1 a = κ.2.1 a) ∧ κ'.2.2 = κ.2.2
theorem zSf_9 {κ' κ : zl_S} (h : zSf κ' κ) (i : Nat) (v : Int32) : zSf (zl_sa κ' 49 i v) κ := ⟨h.1, fun a h1 h2 => (zla_o _ h1 _ _).trans (h.2.1 a h1 h2), h.2.2⟩
theorem zSf_0 {κ' κ : zl_S} (h : zSf κ' κ) (i : Nat) (v : Int32) : zSf (zl_sa κ' 50 i v) κ := ⟨h.1, fun a h1 h2 => (zla_o _ h2 _ _).trans (h.2.1 a h1 h2), h.2.2⟩
/-- the rows hold these tokens -/
def zTkR (T : Nat → Int32) (κ : zl_S) (L : List (Nat × Nat)) : Prop := ∀ i (q : Nat × Nat), L[i]? = some q → κ.2.1 49 i = ztk T q ∧ κ.2.1 50 i = nI q.1
theorem zTkR_add {T : Nat → Int32} {κ : zl_S} {L : List (Nat × Nat)} {q : Nat × Nat} (h : zTkR T κ L) : zTkR T (zl_sa (zl_sa κ 49 L.length (ztk T q)) 50 L.length (nI q.1)) (L ++ [q]) := by
  intro i r hr
  rw [zla_o _ (by decide), zla_s, zla_s, zla_o _ (by decide)]
  rcases Nat.lt_or_ge i L.length with hi | hi
  · rw [List.getElem?_append_left hi] at hr
    rw [upd_o _ (by omega), upd_o _ (by omega)]
    exact h i r hr
  · rw [List.getElem?_append_right hi] at hr
    have hz : i - L.length < 1 := (List.getElem?_eq_some_iff.mp hr).1
    rw [show i - L.length = 0 by omega] at hr
    cases hr
    rw [show i = L.length by omega, upd_s, upd_s]
    exact ⟨rfl, rfl⟩
theorem zTkR_end {T : Nat → Int32} {κ : zl_S} {L : List (Nat × Nat)} (h : zTkR T κ L) (v w : Int32) : zTkR T (zl_sa (zl_sa κ 49 L.length v) 50 L.length w) L := by
  intro i r hr
  have hi := (List.getElem?_eq_some_iff.mp hr).1
  rw [zla_o _ (by decide), zla_s, zla_s, zla_o _ (by decide), upd_o _ (by omega), upd_o _ (by omega)]
  exact h i r hr
theorem zc_sp_end {a z : Nat} {κ' : zl_S} {L : List (Nat × Nat)} (hL : L.length ≤ 400) (h : zSf κ' κ) (hT : zTkR (κ.2.1 a) κ' L) (hp : ∀ κ2, zSf κ2 κ → zTkR (κ.2.1 a) κ2 L → κ2.2.1 49 L.length = nI 3000 → κ2.2.1 50 L.length = nI z → post none n (zl_h κ2 ρ)) : zq_At l G (zq_rm D 0 0) mX8_split (zq_QF G post 0 0) 88 [(0, .ref 48), (1, .ref a), (2, .int (nI z)), (3, .int (nI L.length))] [] n (zl_h κ' ρ) 0 0 := by
  have hp := hp _ (zSf_0 (zSf_9 h L.length (nI 3000)) L.length (nI z)) (zTkR_end hT _ _) (by rw [zla_o _ (by decide), zla_s, upd_s]) (by rw [zla_s, upd_s])
  refine at_aload_n dX8_split_88 rfl ?_
  refine at_get dX8_split_89 fl_X8_11 (zl_o rfl) rfl ?_
  refine at_iload_n dX8_split_92 rfl ?_
  refine at_sipush dX8_split_93 (v := nI 3000) (by decide) ?_
  refine at_last2 (a := 49) dX8_split_96 rfl rfl (by show _ < 401; omega) (by decide) ?_
  refine at_aload_n dX8_split_97 rfl ?_
  refine at_get dX8_split_98 fl_X8_15 (zl_o rfl) rfl ?_
  refine at_iload_n dX8_split_101 rfl ?_
  refine at_iload_n dX8_split_102 rfl ?_
  refine at_last2 (a := 50) dX8_split_103 rfl rfl (by show _ < 401; omega) (by decide) ?_
  refine at_vret dX8_split_104 rfl (by omega) (by omega) ?_
  exact hp
theorem zc_sp_loop {a z : Nat} (hD : 6 ≤ D) (ha : zl_isA a = true) (hl : zl_len a = 400) (h49 : a ≠ 49) (h50 : a ≠ 50) (hz : z ≤ 400) (A : List (Nat × Nat)) (hA4 : A.length ≤ 400) (hp : ∀ κ2, zSf κ2 κ → zTkR (κ.2.1 a) κ2 A → κ2.2.1 49 A.length = nI 3000 → κ2.2.1 50 A.length = nI z → post none n (zl_h κ2 ρ)) :
    ∀ (f k s : Nat) (L : List (Nat × Nat)) (κ' : zl_S), z < k + f → k ≤ z → s ≤ k → L.length ≤ k → zSf κ' κ → zTkR (κ.2.1 a) κ' L → L ++ ztok (κ.2.1 a) z f k = A → zq_At l G (zq_rm D 0 0) mX8_split (zq_QF G post 0 0) 8 [(0, .ref 48), (1, .ref a), (2, .int (nI z)), (3, .int (nI L.length)), (4, .int (nI k)), (5, .int (nI s))] [] n (zl_h κ' ρ) 0 0 := by
  intro f
  induction f with
  | zero => intro k s L κ' h1 h2; omega
  | succ f ih =>
    intro k s L κ' h1 h2 hs hL hκ hT hA
    have hTa : κ'.2.1 a = κ.2.1 a := hκ.2.1 a h49 h50
    unfold ztok at hA
    by_cases hzk : z ≤ k
    · rw [if_pos hzk, List.append_nil] at hA
      subst hA
      have he := zc_sp_end (l := l) (G := G) (D := D) (n := n) (ρ := ρ) (post := post) (κ := κ) (a := a) (z := z) hA4 hκ hT hp
      refine at_iload dX8_split_8 rfl ?_
      refine at_sipush dX8_split_10 (v := nI 400) (by decide) ?_
      refine at_geN (tgt := 88) dX8_split_13 (by decide) (by omega) (by omega) (fun c13 => ?_) (fun c13 => ?_)
      · exact at_lv [0, 1, 2, 3] he
      · refine at_iload dX8_split_16 rfl ?_
        refine at_iload_n dX8_split_18 rfl ?_
        refine at_geN (tgt := 88) dX8_split_19 (by decide) (by omega) (by omega) (fun c19 => ?_) (fun c19 => ?_)
        · exact at_lv [0, 1, 2, 3] he
        · omega
    · rw [if_neg hzk] at hA
      by_cases hb : κ.2.1 a k = nI 32
      · rw [if_pos hb] at hA
        have hn := ih (k + 1) (s + 1) L κ' (by omega) (by omega) (by omega) (by omega) hκ hT hA
        refine at_iload dX8_split_8 rfl ?_
        refine at_sipush dX8_split_10 (v := nI 400) (by decide) ?_
        refine at_geN (tgt := 88) dX8_split_13 (by decide) (by omega) (by omega) (fun c13 => ?_) (fun c13 => ?_)
        · omega
        · refine at_iload dX8_split_16 rfl ?_
          refine at_iload_n dX8_split_18 rfl ?_
          refine at_geN (tgt := 88) dX8_split_19 (by decide) (by omega) (by omega) (fun c19 => ?_) (fun c19 => ?_)
          · omega
          · refine at_iload dX8_split_22 rfl ?_
            refine at_aload_n dX8_split_24 rfl ?_
            refine at_alen dX8_split_25 (zl_a ha) (by decide) (v := nI 400) (by rw [hl]; rfl) ?_
            refine at_geN (tgt := 88) dX8_split_26 (by decide) (by omega) (by omega) (fun c26 => ?_) (fun c26 => ?_)
            · omega
            · refine at_iload dX8_split_29 rfl ?_
              refine at_iconst dX8_split_31 (v := nI 1) (by decide) ?_
              refine at_iaddN dX8_split_32 ?_
              refine at_istore dX8_split_33 (by decide) ?_
              refine at_aload_n dX8_split_35 rfl ?_
              refine at_iload dX8_split_36 rfl ?_
              refine at_lald2 dX8_split_38 ha rfl (by rw [hl]; omega) (by rw [hl]; first | decide | omega) ?_
              rw [hTa]
              refine at_bipush dX8_split_39 (v := nI 32) (by decide) ?_
              refine at_icmp_eq (tgt := 78) dX8_split_41 (by decide) (fun c41 => ?_) (fun c41 => ?_)
              · refine at_iload dX8_split_78 rfl ?_
                refine at_istore dX8_split_80 (by decide) ?_
                refine at_iincN dX8_split_82 rfl (by decide) ?_
                refine at_goto (tgt := 8) dX8_split_85 (by decide) ?_
                exact at_lv [0, 1, 2, 3, 4, 5] hn
              · exact absurd hb c41
      · rw [if_neg hb] at hA
        have hr := zrun_le (κ.2.1 a) (show k < z by omega)
        have hn := ih (zrun (κ.2.1 a) z k) (s + 1) (L ++ [(k, zrun (κ.2.1 a) z k)]) _ (by omega) hr.2 (by omega) (by rw [List.length_append]; show L.length + 1 ≤ _; omega) (zSf_0 (zSf_9 hκ L.length _) L.length _) (zTkR_add (q := (k, zrun (κ.2.1 a) z k)) hT) (by rw [List.append_assoc]; exact hA)
        rw [List.length_append] at hn
        have hdg : zdg (κ'.2.1 a k) = true → ∀ j, k ≤ j → j < zrun (κ.2.1 a) z k → zdg (κ'.2.1 a j) = true := by
          rw [hTa]
          intro hd j g1 g2
          exact zrun_dg (zdg_sm hd) hd g1 g2
        generalize he : zrun (κ.2.1 a) z k = e at *
        refine at_iload dX8_split_8 rfl ?_
        refine at_sipush dX8_split_10 (v := nI 400) (by decide) ?_
        refine at_geN (tgt := 88) dX8_split_13 (by decide) (by omega) (by omega) (fun c13 => ?_) (fun c13 => ?_)
        · omega
        · refine at_iload dX8_split_16 rfl ?_
          refine at_iload_n dX8_split_18 rfl ?_
          refine at_geN (tgt := 88) dX8_split_19 (by decide) (by omega) (by omega) (fun c19 => ?_) (fun c19 => ?_)
          · omega
          · refine at_iload dX8_split_22 rfl ?_
            refine at_aload_n dX8_split_24 rfl ?_
            refine at_alen dX8_split_25 (zl_a ha) (by decide) (v := nI 400) (by rw [hl]; rfl) ?_
            refine at_geN (tgt := 88) dX8_split_26 (by decide) (by omega) (by omega) (fun c26 => ?_) (fun c26 => ?_)
            · omega
            · refine at_iload dX8_split_29 rfl ?_
              refine at_iconst dX8_split_31 (v := nI 1) (by decide) ?_
              refine at_iaddN dX8_split_32 ?_
              refine at_istore dX8_split_33 (by decide) ?_
              refine at_aload_n dX8_split_35 rfl ?_
              refine at_iload dX8_split_36 rfl ?_
              refine at_lald2 dX8_split_38 ha rfl (by rw [hl]; omega) (by rw [hl]; first | decide | omega) ?_
              rw [hTa]
              refine at_bipush dX8_split_39 (v := nI 32) (by decide) ?_
              refine at_icmp_eq (tgt := 78) dX8_split_41 (by decide) (fun c41 => ?_) (fun c41 => ?_)
              · exact absurd c41 hb
              · refine at_aload_n dX8_split_44 rfl ?_
                refine at_iload dX8_split_45 rfl ?_
                refine at_iload_n dX8_split_47 rfl ?_
                refine at_callS3 (d := D - 1) dX8_split_48 ms_X8_71 (Nat.le_of_ble_eq_true rfl) (zq_r0 (by omega) (by omega) (by omega)) ?_
                refine zc_endOfToken (by omega) ha hl hz (by omega) ?_
                rw [hTa, he]
                refine at_istore dX8_split_51 (by decide) ?_
                refine at_aload_n dX8_split_53 rfl ?_
                refine at_get dX8_split_54 fl_X8_11 (zl_o rfl) rfl ?_
                refine at_iload_n dX8_split_57 rfl ?_
                refine at_aload_n dX8_split_58 rfl ?_
                refine at_iload dX8_split_59 rfl ?_
                refine at_iload dX8_split_61 rfl ?_
                refine at_callS3 (d := D - 1) dX8_split_63 ms_X8_75 (Nat.le_of_ble_eq_true rfl) (zq_r0 (by omega) (by omega) (by omega)) ?_
                refine zc_tokenOf (w := zwm (zword (κ.2.1 a) k e zMw 1)) (by omega) ha hl (by omega) (by omega) hdg (fun _ post' hp' => zc_wordOf (by omega) ha hl (by omega) (by omega) (by rw [hTa]; exact hp')) ?_
                rw [hTa]
                refine at_last2 (a := 49) dX8_split_66 rfl rfl (by show _ < 401; omega) (by decide) ?_
                refine at_aload_n dX8_split_67 rfl ?_
                refine at_get dX8_split_68 fl_X8_15 (zl_o rfl) rfl ?_
                refine at_iload_n dX8_split_71 rfl ?_
                refine at_iload dX8_split_72 rfl ?_
                refine at_last2 (a := 50) dX8_split_74 rfl rfl (by show _ < 401; omega) (by decide) ?_
                refine at_iincN dX8_split_75 rfl (by decide) ?_
                refine at_iload dX8_split_78 rfl ?_
                refine at_istore dX8_split_80 (by decide) ?_
                refine at_iincN dX8_split_82 rfl (by decide) ?_
                refine at_goto (tgt := 8) dX8_split_85 (by decide) ?_
                exact at_lv [0, 1, 2, 3, 4, 5] hn
theorem ztok_len (T : Nat → Int32) (z : Nat) : ∀ f k, k ≤ z → (ztok T z f k).length ≤ z - k
  | 0, k, _ => Nat.zero_le _
  | f + 1, k, hk => by
    unfold ztok
    by_cases h1 : z ≤ k
    · rw [if_pos h1]; exact Nat.zero_le _
    · rw [if_neg h1]
      by_cases h2 : T k = nI 32
      · rw [if_pos h2]
        have := ztok_len T z f (k + 1) (by omega)
        omega
      · rw [if_neg h2]
        have hr := zrun_le T (show k < z by omega)
        have := ztok_len T z f (zrun T z k) hr.2
        rw [List.length_cons]
        omega
theorem zc_split {a z : Nat} (hD : 6 ≤ D) (ha : zl_isA a = true) (hl : zl_len a = 400) (h49 : a ≠ 49) (h50 : a ≠ 50) (hz : z ≤ 400) (hp : ∀ κ2, zSf κ2 κ → zTkR (κ.2.1 a) κ2 (zTok (κ.2.1 a) z) → κ2.2.1 49 (zTok (κ.2.1 a) z).length = nI 3000 → κ2.2.1 50 (zTok (κ.2.1 a) z).length = nI z → (zTok (κ.2.1 a) z).length ≤ z → post none n (zl_h κ2 ρ)) : zq_Runs l G D 0 0 yX8_split [.ref 48, .ref a, .int (nI z)] n (zl_h κ ρ) post := by
  have hlen : (zTok (κ.2.1 a) z).length ≤ z := ztok_len _ _ 401 0 (Nat.zero_le _)
  have h0 := zc_sp_loop (l := l) (G := G) (D := D) (n := n) (ρ := ρ) (post := post) (κ := κ) hD ha hl h49 h50 hz (zTok (κ.2.1 a) z) (by omega) (fun κ2 g1 g2 g3 g4 => hp κ2 g1 g2 g3 g4 hlen) 401 0 0 [] κ (by omega) (Nat.zero_le _) (Nat.le_refl _) (Nat.le_refl _) ⟨rfl, fun _ _ _ => rfl, rfl⟩ (fun i q h => by simp at h) rfl
  refine zq_enter (cc := cX8_split) (nL := 7) (ret := none) cw_X8_split (by decide) rfl (Nat.le_of_ble_eq_true rfl) ?_
  refine at_iconst dX8_split_0 (v := nI 0) (by decide) ?_
  refine at_istore_n dX8_split_1 rfl (by decide) ?_
  refine at_iconst dX8_split_2 (v := nI 0) (by decide) ?_
  refine at_istore dX8_split_3 (by decide) ?_
  refine at_iconst dX8_split_5 (v := nI 0) (by decide) ?_
  refine at_istore dX8_split_6 (by decide) ?_
  exact h0
end ZC44

