/-! ===== the class: the search for the clearest row ===== -/
section ZC10
variable {l : Launch} {G : zq_G} {n b m : Nat} {ρ : Nat → zq_E} {sd : Nat → Nat → Nat}
theorem zLo_Q {k : Nat} {κ κ' : zl_S} (hb : zQb b) (h : zLo k κ' κ) {c : Nat} (h1 : 1 ≤ c) (h9 : c ≤ 9) : κ'.2.1 (b + c) = κ.2.1 (b + c) ∧ κ'.1 b = κ.1 b := by
  have : b + c ≠ 65 ∧ b + c ≠ 66 ∧ b + c ≠ 67 ∧ b ≠ 64 := by rcases hb with rfl | rfl | rfl <;> omega
  exact ⟨h.2.1 _ this.1 this.2.1 this.2.2.1, h.1 _ this.2.2.2⟩
theorem zc_tryFrom (hb : zQb b) (hm7 : m ≤ 7) : ∀ (f k u D : Nat) (c r : Nat → Nat) (A : zCA) (κ : zl_S) (post : Option Value → Nat → (Nat → zq_E) → Prop), k + f = m → u < 128 → f + 4 ≤ D → zLs κ b m sd k c r A →
    (∀ κ', zLo k κ' κ → κ'.1 64 3 = zlast (zclF sd m f k u c r A).1 → (zclF sd m f k u c r A).1 ≤ 6 → ((zclF sd m f k u c r A).1 ≠ 0 → ∀ j, j < m → κ'.2.1 67 j = nI ((zclF sd m f k u c r A).2 j)) → post none n (zl_h κ' ρ)) → zq_Runs l G D 0 0 yX2_tryFrom [.ref 64, .ref b, .int (nI k), .int (nI u)] n (zl_h κ ρ) post := by
  intro f
  induction f with
  | zero =>
    intro k u D c r A κ post hk hu hD hS hp
    have hS0 := hS
    obtain ⟨t1, t2, t3, t4, t5, t6, t7⟩ := hS
    obtain rfl : k = m := hk
    have hdl : zdis c ≤ 7 := zpop_le _ 7
    have hsd : ∀ p y, p < k → 1 ≤ y → y ≤ 5 → 1 ≤ sd p y ∧ sd p y ≤ 5 := fun p y h1 h2 h3 => (t2 p y h1 h2 h3).2
    refine zq_enter (cc := cX2_tryFrom) (nL := 5) (ret := none) cw_X2_tryFrom (by decide) rfl (Nat.le_of_ble_eq_true rfl) ?_
    refine at_iload_n dX2_tryFrom_0 rfl ?_
    refine at_bipush dX2_tryFrom_1 (v := nI 7) (by decide) ?_
    refine at_gtN (tgt := 18) dX2_tryFrom_3 (by decide) (by omega) (by omega) (fun c3 => ?_) (fun c3 => ?_)
    · omega
    · refine at_aload_n dX2_tryFrom_6 rfl ?_
      refine at_iload_n dX2_tryFrom_7 rfl ?_
      refine at_callV1 (d := D - 1) dX2_tryFrom_8 mv_X2_29 (zl_o rfl) (Nat.le_of_ble_eq_true rfl) (zq_r0 (by omega) (by omega) (by omega)) ?_
      refine zc_unlike (by omega) hm7 t3 ?_
      refine at_aload_n dX2_tryFrom_11 rfl ?_
      refine at_get dX2_tryFrom_12 fl_X2_21 (zl_o rfl) rfl ?_
      rw [t5]
      refine at_icmp_gt (tgt := 19) dX2_tryFrom_15 (by decide) (fun c15 => ?_) (fun c15 => ?_)
      · refine at_iload_n dX2_tryFrom_19 rfl ?_
        refine at_aload_n dX2_tryFrom_20 rfl ?_
        refine at_get dX2_tryFrom_21 fl_X2_33 (zl_q hb) rfl ?_
        rw [t1]
        refine at_ltN (tgt := 33) dX2_tryFrom_24 (by decide) (by omega) (by omega) (fun c24 => ?_) (fun c24 => ?_)
        · omega
        · refine at_aload_n dX2_tryFrom_27 rfl ?_
          refine at_iload_n dX2_tryFrom_28 rfl ?_
          refine at_callV1 (d := D - 1) dX2_tryFrom_29 mv_X2_38 (zl_o rfl) (Nat.le_of_ble_eq_true rfl) (zq_r0 (by omega) (by omega) (by omega)) ?_
          refine zc_keepIfClearer (by omega) hm7 rfl hS0 (fun κ' o1 o2 o3 o4 => ?_)
          have hp := hp κ' o1 o2 o3 o4
          refine at_vret dX2_tryFrom_32 rfl (by omega) (by omega) ?_
          exact hp
      · have h0 : ¬ A.1 < zdis c + 1 := fun h => c15 ((zlast_lt (by omega) (by omega)).mpr h)
        rw [zclF_cut hsd 0 k u c r A (fun i hi => (t3 i hi).2) (by omega)] at hp
        have hp := hp κ (zLo_r _ _) t5 t6 t7
        refine at_vret dX2_tryFrom_18 rfl (by omega) (by omega) ?_
        exact hp
  | succ f ih =>
    intro k u D c r A κ post hk hu hD hS hp
    have hS0 := hS
    have hsd : ∀ p y, p < m → 1 ≤ y → y ≤ 5 → 1 ≤ sd p y ∧ sd p y ≤ 5 := fun p y h1 h2 h3 => (hS.2.1 p y h1 h2 h3).2
    have hdl : zdis c ≤ 7 := zpop_le _ 7
    have loop : ∀ (g p : Nat) (B : zCA) (τ : zl_S), p + g = m → zLo k τ κ → zLs τ b m sd k c r B → zclF sd m (f + 1) k u c r A = zclI (fun p A => zclF sd m f (k + 1) (u ||| 2 ^ p) (fun i => sd p (c i)) (zun r k p) A) u g p B → zq_At l G (zq_rm D 0 0) mX2_tryFrom (zq_QF G post 0 0) 36 [(0, .ref 64), (1, .ref b), (2, .int (nI k)), (3, .int (nI u)), (4, .int (nI p))] [] n (zl_h τ ρ) 0 0 := by
      intro g
      induction g with
      | zero =>
        intro p B τ hpm ho ⟨t1, t2, t3, t4, t5, t6, t7⟩ he
        obtain rfl : p = m := hpm
        have he : zclF sd p (f + 1) k u c r A = B := he
        rw [he] at hp
        have hp := hp τ ho t5 t6 t7
        refine at_iload dX2_tryFrom_36 rfl ?_
        refine at_aload_n dX2_tryFrom_38 rfl ?_
        refine at_get dX2_tryFrom_39 fl_X2_33 (zl_q hb) rfl ?_
        rw [t1]
        refine at_geN (tgt := 96) dX2_tryFrom_42 (by decide) (by omega) (by omega) (fun c42 => ?_) (fun c42 => ?_)
        · refine at_vret dX2_tryFrom_96 rfl (by omega) (by omega) ?_
          exact hp
        · omega
      | succ g ihg =>
        intro p B τ hpm ho hT he
        obtain ⟨t1, t2, t3, t4, t5, t6, t7⟩ := hT
        rw [zclI_le] at he
        have hu2 : u ||| 2 ^ p < 128 := Nat.or_lt_two_pow (n := 7) hu (Nat.pow_lt_pow_right (by decide) (by omega))
        have b4 : b + 4 ≠ 65 ∧ b + 4 ≠ 66 := by rcases hb with rfl | rfl | rfl <;> decide
        refine at_iload dX2_tryFrom_36 rfl ?_
        refine at_aload_n dX2_tryFrom_38 rfl ?_
        refine at_get dX2_tryFrom_39 fl_X2_33 (zl_q hb) rfl ?_
        rw [t1]
        refine at_geN (tgt := 96) dX2_tryFrom_42 (by decide) (by omega) (by omega) (fun c42 => ?_) (fun c42 => ?_)
        · omega
        · refine at_iload_n dX2_tryFrom_45 rfl ?_
          refine at_bipush dX2_tryFrom_46 (v := nI 7) (by decide) ?_
          refine at_geN (tgt := 96) dX2_tryFrom_48 (by decide) (by omega) (by omega) (fun c48 => ?_) (fun c48 => ?_)
          · omega
          · refine at_iload_n dX2_tryFrom_51 rfl ?_
            refine at_iload dX2_tryFrom_52 rfl ?_
            refine at_ishr dX2_tryFrom_54 ?_
            refine at_iconst dX2_tryFrom_55 (v := nI 1) (by decide) ?_
            refine at_iand dX2_tryFrom_56 ?_
            rw [zbit (by omega) (by omega)]
            refine at_if_neN (tgt := 90) dX2_tryFrom_57 (by decide) (by omega) (fun c57 => ?_) (fun c57 => ?_)
            · rw [if_pos (by omega)] at he
              have hnx := ihg (p + 1) B τ (by omega) ho ⟨t1, t2, t3, t4, t5, t6, t7⟩ he
              refine at_iincN dX2_tryFrom_90 rfl (by decide) ?_
              refine at_goto (tgt := 36) dX2_tryFrom_93 (by decide) ?_
              exact hnx
            · rw [if_neg (by omega)] at he
              refine at_aload_n dX2_tryFrom_60 rfl ?_
              refine at_get dX2_tryFrom_61 fl_X2_15 (zl_o rfl) rfl ?_
              refine at_iload_n dX2_tryFrom_64 rfl ?_
              refine at_iload dX2_tryFrom_65 rfl ?_
              refine at_last2 (a := 66) dX2_tryFrom_67 rfl rfl (by show _ < 7; omega) (by decide) ?_
              refine at_aload_n dX2_tryFrom_68 rfl ?_
              refine at_aload_n dX2_tryFrom_69 rfl ?_
              refine at_iload_n dX2_tryFrom_70 rfl ?_
              refine at_iload dX2_tryFrom_71 rfl ?_
              refine at_callV3 (d := D - 1) dX2_tryFrom_73 mv_X2_42 (zl_o rfl) (Nat.le_of_ble_eq_true rfl) (zq_r0 (by omega) (by omega) (by omega)) ?_
              refine zc_tellOn (m := m) (sd := sd) (c := c) (by omega) hb t1 hm7 (by omega) (by omega) ?_ ?_ (fun g' q1 q2 => ?_)
              · intro p' y h1 h2 h3
                rw [zla_o _ b4.2]; exact t2 p' y h1 h2 h3
              · intro i hi
                rw [zla_o _ (by decide)]; exact t3 i hi
              rw [zla_o _ (by decide)] at q1
              have hT2 : zLs (zl_sA (zl_sa τ 66 k (nI p)) 65 g') b m sd (k + 1) (fun i => sd p (c i)) (zun r k p) B := by
                refine ⟨t1, ?_, ?_, ?_, t5, t6, ?_⟩
                · intro p' y h1 h2 h3
                  rw [zlA_o _ b4.1, zla_o _ b4.2]
                  exact t2 p' y h1 h2 h3
                · intro i hi
                  rw [zlA_s]
                  exact ⟨q2 i hi, (t2 p (c i) (by omega) (t3 i hi).2.1 (t3 i hi).2.2).2⟩
                · intro j hj
                  rw [zlA_o _ (by decide), zla_s]
                  unfold zun
                  by_cases e : j = k
                  · subst e; rw [upd_s, if_pos rfl]
                  · rw [upd_o _ e, if_neg e]; exact t4 j (by omega)
                · rw [zlA_o _ (by decide), zla_o _ (by decide)]
                  exact t7
              refine at_aload_n dX2_tryFrom_76 rfl ?_
              refine at_aload_n dX2_tryFrom_77 rfl ?_
              refine at_iload_n dX2_tryFrom_78 rfl ?_
              refine at_iconst dX2_tryFrom_79 (v := nI 1) (by decide) ?_
              refine at_iaddN dX2_tryFrom_80 ?_
              refine at_iload_n dX2_tryFrom_81 rfl ?_
              refine at_iconst dX2_tryFrom_82 (v := nI 1) (by decide) ?_
              refine at_iload dX2_tryFrom_83 rfl ?_
              refine at_ishl dX2_tryFrom_85 ?_
              rw [zshl1 (by omega)]
              refine at_ior dX2_tryFrom_86 ?_
              rw [zor]
              refine at_callV3 (d := D - 1) dX2_tryFrom_87 mv_X2_25 (zl_o rfl) (Nat.le_of_ble_eq_true rfl) (zq_r0 (by omega) (by omega) (by omega)) ?_
              refine ih (k + 1) (u ||| 2 ^ p) _ _ _ B _ _ (by omega) hu2 (by omega) hT2 (fun υ o1 o2 o3 o4 => ?_)
              have hQ4 := zLo_Q hb o1 (c := 4) (by decide) (by decide)
              have hnx := ihg (p + 1) _ υ (by omega) ?_ ?_ he
              refine at_iincN dX2_tryFrom_90 rfl (by decide) ?_
              refine at_goto (tgt := 36) dX2_tryFrom_93 (by decide) ?_
              · exact hnx
              · refine zLo_t (b := τ) ⟨o1.1, fun a h1 h2 h3 => ?_, o1.2.2.1, fun j hj => ?_, fun j hj => ?_⟩ ho
                · rw [o1.2.1 a h1 h2 h3, zlA_o _ h1, zla_o _ h2]
                · rw [o1.2.2.2.1 j (by omega), zlA_s]; exact q1 j hj
                · rw [o1.2.2.2.2 j (by omega), zlA_o _ (by decide), zla_s, upd_o _ (by omega)]
              · refine ⟨(congrFun hQ4.2 0).trans t1, ?_, ?_, ?_, o2, o3, o4⟩
                · intro p' y h1 h2 h3
                  rw [hQ4.1, zlA_o _ b4.1, zla_o _ b4.2]
                  exact t2 p' y h1 h2 h3
                · intro i hi
                  rw [o1.2.2.2.1 _ (by omega), zlA_s, q1 _ (by omega)]
                  exact t3 i hi
                · intro j hj
                  rw [o1.2.2.2.2 j (by omega), zlA_o _ (by decide), zla_s, upd_o _ (by omega)]
                  exact t4 j hj
    have hl0 := loop m 0 A κ (Nat.zero_add m) (zLo_r _ _) hS rfl
    obtain ⟨t1, t2, t3, t4, t5, t6, t7⟩ := hS
    refine zq_enter (cc := cX2_tryFrom) (nL := 5) (ret := none) cw_X2_tryFrom (by decide) rfl (Nat.le_of_ble_eq_true rfl) ?_
    refine at_iload_n dX2_tryFrom_0 rfl ?_
    refine at_bipush dX2_tryFrom_1 (v := nI 7) (by decide) ?_
    refine at_gtN (tgt := 18) dX2_tryFrom_3 (by decide) (by omega) (by omega) (fun c3 => ?_) (fun c3 => ?_)
    · omega
    · refine at_aload_n dX2_tryFrom_6 rfl ?_
      refine at_iload_n dX2_tryFrom_7 rfl ?_
      refine at_callV1 (d := D - 1) dX2_tryFrom_8 mv_X2_29 (zl_o rfl) (Nat.le_of_ble_eq_true rfl) (zq_r0 (by omega) (by omega) (by omega)) ?_
      refine zc_unlike (by omega) (by omega) t3 ?_
      refine at_aload_n dX2_tryFrom_11 rfl ?_
      refine at_get dX2_tryFrom_12 fl_X2_21 (zl_o rfl) rfl ?_
      rw [t5]
      refine at_icmp_gt (tgt := 19) dX2_tryFrom_15 (by decide) (fun c15 => ?_) (fun c15 => ?_)
      · refine at_iload_n dX2_tryFrom_19 rfl ?_
        refine at_aload_n dX2_tryFrom_20 rfl ?_
        refine at_get dX2_tryFrom_21 fl_X2_33 (zl_q hb) rfl ?_
        rw [t1]
        refine at_ltN (tgt := 33) dX2_tryFrom_24 (by decide) (by omega) (by omega) (fun c24 => ?_) (fun c24 => ?_)
        · refine at_iconst dX2_tryFrom_33 (v := nI 0) (by decide) ?_
          refine at_istore dX2_tryFrom_34 (by decide) ?_
          exact hl0
        · omega
      · have h0 : ¬ A.1 < zdis c + 1 := fun h => c15 ((zlast_lt (by omega) (by omega)).mpr h)
        rw [zclF_cut hsd (f + 1) k u c r A (fun i hi => (t3 i hi).2) (by omega)] at hp
        have hp := hp κ (zLo_r _ _) t5 t6 t7
        refine at_vret dX2_tryFrom_18 rfl (by omega) (by omega) ?_
        exact hp
/-- what a search leaves -/
def zLc (κ' κ : zl_S) : Prop := (∀ o, o ≠ 64 → κ'.1 o = κ.1 o) ∧ (∀ a, a ≠ 65 → a ≠ 66 → a ≠ 67 → κ'.2.1 a = κ.2.1 a) ∧ κ'.2.2 = κ.2.2
theorem zc_seek {D : Nat} {κ : zl_S} {post : Option Value → Nat → (Nat → zq_E) → Prop} (hD : 14 ≤ D) (hb : zQb b) (hm : κ.1 b 0 = nI m) (hm7 : m ≤ 7) (hS : zQS κ b m sd)
    (hp : ∀ κ', zLc κ' κ → κ'.1 64 3 = zlast (zclA sd m).1 → (∀ j, j < m → κ'.2.1 67 j = nI ((zclA sd m).2 j)) → post none n (zl_h κ' ρ)) : zq_Runs l G D 0 0 yX2_seek [.ref 64, .ref b] n (zl_h κ ρ) post := by
  have b4 : b + 4 ≠ 65 ∧ b ≠ 64 := by rcases hb with rfl | rfl | rfl <;> decide
  have loop : ∀ f i, i + f = 5 → ∀ g, (∀ j, j < i → g (j + 1) = nI (j + 1)) → zq_At l G (zq_rm D 0 0) mX2_seek (zq_QF G post 0 0) 7 [(0, .ref 64), (1, .ref b), (2, .int (nI (i + 1)))] [] n (zl_h (zl_sA (zl_si κ 64 3 (-1)) 65 g) ρ) 0 0 := by
    intro f
    induction f with
    | zero =>
      intro i hi g hg
      obtain rfl : i = 5 := hi
      have hT : zLs (zl_sA (zl_si κ 64 3 (-1)) 65 g) b m sd 0 (fun i => i + 1) (fun _ => 0) (0, fun _ => 0) := by
        refine ⟨?_, ?_, ?_, fun j hj => absurd hj (Nat.not_lt_zero _), zsi2_s κ 64 3 _, by show 0 ≤ 6; omega, fun h => absurd rfl h⟩
        · show (zl_si κ 64 3 (-1)).1 b 0 = _
          rw [zsi2_o _ b4.2]; exact hm
        · intro p y h1 h2 h3
          rw [zlA_o _ b4.1]; exact hS p y h1 h2 h3
        · intro j hj
          rw [zlA_s, Nat.mul_zero, Nat.zero_add]
          exact ⟨hg j hj, by show 1 ≤ j + 1; omega, by show j + 1 ≤ 5; omega⟩
      refine at_iload_n dX2_seek_7 rfl ?_
      refine at_iconst dX2_seek_8 (v := nI 5) (by decide) ?_
      refine at_gtN (tgt := 25) dX2_seek_9 (by decide) (by omega) (by omega) (fun c9 => ?_) (fun c9 => ?_)
      · refine at_aload_n dX2_seek_25 rfl ?_
        refine at_aload_n dX2_seek_26 rfl ?_
        refine at_iconst dX2_seek_27 (v := nI 0) (by decide) ?_
        refine at_iconst dX2_seek_28 (v := nI 0) (by decide) ?_
        refine at_callV3 (d := D - 1) dX2_seek_29 mv_X2_25 (zl_o rfl) (Nat.le_of_ble_eq_true rfl) (zq_r0 (by omega) (by omega) (by omega)) ?_
        refine zc_tryFrom hb hm7 m 0 0 _ _ _ _ _ _ (Nat.zero_add m) (by decide) (by omega) hT (fun κ' o1 o2 o3 o4 => ?_)
        have hp := hp κ' ⟨fun o ho => (o1.1 o ho).trans (zsi2_o _ ho _ _), fun a h1 h2 h3 => (o1.2.1 a h1 h2 h3).trans (zlA_o _ h1 _), o1.2.2.1⟩ o2 (o4 (zclA_ne sd m))
        refine at_vret dX2_seek_32 rfl (by omega) (by omega) ?_
        exact hp
      · omega
    | succ f ih =>
      intro i hi g hg
      have hn := ih (i + 1) (by omega) (upd g (i + 1) (nI (i + 1))) (fun j hj => by
        by_cases e : j = i
        · subst e; rw [upd_s]
        · rw [upd_o _ (by omega)]; exact hg j (by omega))
      refine at_iload_n dX2_seek_7 rfl ?_
      refine at_iconst dX2_seek_8 (v := nI 5) (by decide) ?_
      refine at_gtN (tgt := 25) dX2_seek_9 (by decide) (by omega) (by omega) (fun c9 => ?_) (fun c9 => ?_)
      · omega
      · refine at_aload_n dX2_seek_12 rfl ?_
        refine at_get dX2_seek_13 fl_X2_9 (zl_o rfl) rfl ?_
        refine at_iload_n dX2_seek_16 rfl ?_
        refine at_iload_n dX2_seek_17 rfl ?_
        refine at_last2 (a := 65) dX2_seek_18 rfl rfl (by show _ < 48; omega) (by decide) ?_
        rw [zlA_a]
        refine at_iincN dX2_seek_19 rfl (by decide) ?_
        refine at_goto (tgt := 7) dX2_seek_22 (by decide) ?_
        exact hn
  have h := loop 5 0 rfl (κ.2.1 65) (fun j hj => absurd hj (Nat.not_lt_zero _))
  rw [show zl_sA (zl_si κ 64 3 (-1)) 65 (κ.2.1 65) = zl_si κ 64 3 (-1) from zlA_0 (zl_si κ 64 3 (-1)) 65] at h
  refine zq_enter (cc := cX2_seek) (nL := 3) (ret := none) cw_X2_seek (by decide) rfl (Nat.le_of_ble_eq_true rfl) ?_
  refine at_aload_n dX2_seek_0 rfl ?_
  refine at_iconst dX2_seek_1 (v := -1) rfl ?_
  refine at_lput dX2_seek_2 (pl_X2_21 _) (fun i => ⟨_, rfl, Nat.le_of_ble_eq_true rfl, fun v => rfl⟩) rfl rfl ?_
  refine at_iconst dX2_seek_5 (v := nI 1) (by decide) ?_
  refine at_istore_n dX2_seek_6 rfl (by decide) ?_
  exact h
end ZC10

