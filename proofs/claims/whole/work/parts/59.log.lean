/-! ===== the class: the log, answers ===== -/
/-- deeds in a row, the latest last -/
def zLd (g : Nat → Int32) (Λ : List Nat) : Prop := ∀ i, i < Λ.length → g (Λ.length - 1 - i) = nI (Λ.getD i 0)
theorem zLd_cons {g : Nat → Int32} {d : Nat} {Λ : List Nat} (h : zLd g Λ) {g' : Nat → Int32} (h1 : ∀ j, j < Λ.length → g' j = g j) (h2 : g' Λ.length = nI d) : zLd g' (d :: Λ) := by
  intro i hi
  rw [List.length_cons] at hi ⊢
  cases i with
  | zero => rw [show Λ.length + 1 - 1 - 0 = Λ.length by omega, h2]; rfl
  | succ i =>
    rw [show Λ.length + 1 - 1 - (i + 1) = Λ.length - 1 - i by omega, h1 _ (by omega), h i (by omega)]
    rfl
theorem zLd_take {g g' : Nat → Int32} {Λ : List Nat} (h : zLd g Λ) (hl : Λ.length = 16) (h1 : ∀ j, j < 15 → g' j = g (1 + j)) : zLd g' (Λ.take 15) := by
  have e : (Λ.take 15).length = 15 := by rw [List.length_take]; omega
  intro i hi
  rw [e] at hi ⊢
  rw [h1 _ (by omega), show 1 + (15 - 1 - i) = Λ.length - 1 - i by omega, h i (by omega), List.getD_eq_getElem?_getD, List.getD_eq_getElem?_getD, List.getElem?_take_of_lt hi]
section ZC6
variable {l : Launch} {G : zq_G} {D n : Nat} {κ : zl_S} {ρ : Nat → zq_E} {f : Nat → zq_E} {post : Option Value → Nat → (Nat → zq_E) → Prop} {Λ : List Nat}
theorem zc_logClear (hp : post none n (zl_h (zl_si κ 43 0 (nI 0)) ρ)) : zq_Runs l G D 0 0 yX4_clear [.ref 43] n (zl_h κ ρ) post := by
  refine zq_enter (cc := cX4_clear) (nL := 1) (ret := none) cw_X4_clear (by decide) rfl (Nat.le_of_ble_eq_true rfl) ?_
  refine at_aload_n dX4_clear_0 rfl ?_
  refine at_iconst dX4_clear_1 (v := nI 0) (by decide) ?_
  refine at_lput dX4_clear_2 (pl_X4_9 _) (fun i => ⟨_, rfl, Nat.le_of_ble_eq_true rfl, fun v => rfl⟩) rfl rfl ?_
  refine at_vret dX4_clear_5 rfl (by omega) (by omega) ?_
  exact hp
theorem zc_logAdd {k a b c : Nat} (hD : 1 ≤ D) (hs : κ.1 43 0 = nI Λ.length) (hl : Λ.length ≤ 16) (hL : zLd (κ.2.1 44) Λ) (hp : ∀ g', zLd g' (zpush (1000 * k + 100 * a + 10 * b + c) Λ) → post none n (zl_h (zl_si (zl_sA κ 44 g') 43 0 (nI (zpush (1000 * k + 100 * a + 10 * b + c) Λ).length)) ρ)) : zq_Runs l G D 0 0 yX4_add [.ref 43, .int (nI k), .int (nI a), .int (nI b), .int (nI c)] n (zl_h κ ρ) post := by
  have fin : ∀ (g : Nat → Int32) (z : Nat) (v : Int32), z < 16 → (zpush (1000 * k + 100 * a + 10 * b + c) Λ).length = z + 1 → (∀ g', (∀ j, j < z → g' j = g j) → g' z = nI (1000 * k + 100 * a + 10 * b + c) → zLd g' (zpush (1000 * k + 100 * a + 10 * b + c) Λ)) → zq_At l G (zq_rm D 0 0) mX4_add (zq_QF G post 0 0) 30 [(0, .ref 43), (1, .int (nI k)), (2, .int (nI a)), (3, .int (nI b)), (4, .int (nI c))] [] n (zl_h (zl_si (zl_sA κ 44 g) 43 0 (nI z)) ρ) 0 0 := by
    intro g z v hz hz2 hg
    have hp := hp (upd g z (nI (1000 * k + 100 * a + 10 * b + c))) (hg _ (fun j hj => upd_o _ (by omega) _) (upd_s _ _ _))
    rw [hz2] at hp
    have e44 : zl_sa (zl_si (zl_sA κ 44 g) 43 0 (nI z)) 44 z (nI (1000 * k + 100 * a + 10 * b + c)) = zl_si (zl_sA κ 44 (upd g z (nI (1000 * k + 100 * a + 10 * b + c)))) 43 0 (nI z) := by
      show zl_si (zl_sa (zl_sA κ 44 g) 44 z _) 43 0 (nI z) = _
      rw [zlA_a]
    have e0 : ∀ q w, zl_si (zl_si q 43 0 (nI z)) 43 0 w = zl_si q 43 0 w := fun q w => by
      show (va_up (va_up q.1 43 _) 43 (upd (va_up q.1 43 (upd (q.1 43) 0 (nI z)) 43) 0 w), q.2) = (va_up q.1 43 (upd (q.1 43) 0 w), q.2)
      rw [bx_uu, va_up_self]
      congr 2
      funext j
      by_cases h : j = 0
      · subst h; rw [upd_s, upd_s]
      · rw [upd_o _ h, upd_o _ h, upd_o _ h]
    refine at_aload_n dX4_add_30 rfl ?_
    refine at_get dX4_add_31 fl_X4_9 (zl_o rfl) rfl ?_
    rw [zsi2_s]
    refine at_if_ltN (tgt := 74) dX4_add_34 (by decide) (by omega) (fun c34 => ?_) (fun c34 => ?_)
    · exact c34.elim
    · refine at_aload_n dX4_add_37 rfl ?_
      refine at_get dX4_add_38 fl_X4_15 (zl_o rfl) rfl ?_
      refine at_aload_n dX4_add_41 rfl ?_
      refine at_get dX4_add_42 fl_X4_9 (zl_o rfl) rfl ?_
      refine at_sipush dX4_add_45 (v := nI 1000) (by decide) ?_
      refine at_iload_n dX4_add_48 rfl ?_
      refine at_imulN dX4_add_49 ?_
      refine at_bipush dX4_add_50 (v := nI 100) (by decide) ?_
      refine at_iload_n dX4_add_52 rfl ?_
      refine at_imulN dX4_add_53 ?_
      refine at_iaddN dX4_add_54 ?_
      refine at_bipush dX4_add_55 (v := nI 10) (by decide) ?_
      refine at_iload_n dX4_add_57 rfl ?_
      refine at_imulN dX4_add_58 ?_
      refine at_iaddN dX4_add_59 ?_
      refine at_iload dX4_add_60 rfl ?_
      refine at_iaddN dX4_add_62 ?_
      refine at_last2 (a := 44) dX4_add_63 rfl (zsi2_s _ _ _ _) (by show _ < 16; omega) (by decide) ?_
      rw [e44]
      refine at_aload_n dX4_add_64 rfl ?_
      refine at_dup dX4_add_65 rfl ?_
      refine at_get dX4_add_66 fl_X4_9 (zl_o rfl) rfl ?_
      rw [zsi2_s]
      refine at_iconst dX4_add_69 (v := nI 1) (by decide) ?_
      refine at_iaddN dX4_add_70 ?_
      refine at_lput dX4_add_71 (pl_X4_9 _) (fun i => ⟨_, rfl, Nat.le_of_ble_eq_true rfl, fun v => rfl⟩) rfl rfl ?_
      rw [e0]
      refine at_vret dX4_add_74 rfl (by omega) (by omega) ?_
      exact hp
  have e00 : zl_si (zl_sA κ 44 (κ.2.1 44)) 43 0 (nI Λ.length) = κ := by
    rw [zlA_0]
    show (va_up κ.1 43 (upd (κ.1 43) 0 (nI Λ.length)), κ.2) = κ
    rw [show va_up κ.1 43 (upd (κ.1 43) 0 (nI Λ.length)) = κ.1 by
      funext o
      by_cases h : o = 43
      · subst h
        rw [va_up_self]
        funext j
        by_cases hj : j = 0
        · subst hj; rw [upd_s]; exact hs.symm
        · rw [upd_o _ hj]
      · rw [va_up_ne _ _ h]]
  refine zq_enter (cc := cX4_add) (nL := 5) (ret := none) cw_X4_add (by decide) rfl (Nat.le_of_ble_eq_true rfl) ?_
  refine at_aload_n dX4_add_0 rfl ?_
  refine at_get dX4_add_1 fl_X4_9 (zl_o rfl) rfl ?_
  rw [hs]
  refine at_bipush dX4_add_4 (v := nI 16) (by decide) ?_
  refine at_ltN (tgt := 30) dX4_add_6 (by decide) (by omega) (by omega) (fun c6 => ?_) (fun c6 => ?_)
  · have fin := fin (κ.2.1 44) Λ.length 0 (by omega) (by rw [zpush_len hl, if_neg (by omega)]) (fun g' h1 h2 => by
      have ez : zpush (1000 * k + 100 * a + 10 * b + c) Λ = (1000 * k + 100 * a + 10 * b + c) :: Λ := List.take_of_length_le (by rw [List.length_cons]; omega)
      rw [ez]
      exact zLd_cons hL h1 h2)
    rw [e00] at fin
    exact fin
  · have h16 : Λ.length = 16 := by omega
    have fin := fin (va_cpy (κ.2.1 44) (κ.2.1 44) 1 0 15) 15 0 (by omega) (by rw [zpush_len hl, if_pos h16]) (fun g' h1 h2 => by
      have ez : zpush (1000 * k + 100 * a + 10 * b + c) Λ = (1000 * k + 100 * a + 10 * b + c) :: Λ.take 15 := rfl
      have e15 : (Λ.take 15).length = 15 := by rw [List.length_take]; omega
      rw [ez]
      refine zLd_cons (zLd_take (g' := va_cpy (κ.2.1 44) (κ.2.1 44) 1 0 15) hL h16 (fun j hj => ?_)) (by rw [e15]; exact h1) (by rw [e15]; exact h2)
      exact (if_pos ⟨Nat.zero_le _, by omega⟩).trans (by rw [Nat.sub_zero]))
    refine at_aload_n dX4_add_9 rfl ?_
    refine at_get dX4_add_10 fl_X4_15 (zl_o rfl) rfl ?_
    refine at_iconst dX4_add_13 (v := nI 1) (by decide) ?_
    refine at_aload_n dX4_add_14 rfl ?_
    refine at_get dX4_add_15 fl_X4_15 (zl_o rfl) rfl ?_
    refine at_iconst dX4_add_18 (v := nI 0) (by decide) ?_
    refine at_bipush dX4_add_19 (v := nI 15) (by decide) ?_
    refine at_copyi dX4_add_21 ac_X4_19 (zl_a (a := 44) rfl) (zl_a (a := 44) rfl) (by decide) (by decide) (by decide) (by decide) (Nat.le_of_ble_eq_true rfl) ⟨by show 1 ≤ D; omega, by show 26 ≤ 60 * D; omega⟩ ?_
    rw [zl_up_A _ rfl]
    refine at_aload_n dX4_add_24 rfl ?_
    refine at_bipush dX4_add_25 (v := nI 15) (by decide) ?_
    refine at_lput dX4_add_27 (pl_X4_9 _) (fun i => ⟨_, rfl, Nat.le_of_ble_eq_true rfl, fun v => rfl⟩) rfl rfl ?_
    exact fin
theorem zc_logTake {d : Nat} {ds : List Nat} (hs : κ.1 43 0 = nI (ds.length + 1)) (hl : ds.length + 1 ≤ 16) (hL : zLd (κ.2.1 44) (d :: ds)) (hp : post (some (.int (nI d))) n (zl_h (zl_si κ 43 0 (nI ds.length)) ρ)) : zq_Runs l G D 0 0 yX4_take [.ref 43] n (zl_h κ ρ) post := by
  have g := hL 0 (by rw [List.length_cons]; omega)
  rw [List.length_cons, show ds.length + 1 - 1 - 0 = ds.length by omega] at g
  have g : κ.2.1 44 ds.length = nI d := g
  refine zq_enter (cc := cX4_take) (nL := 1) (ret := (some .int)) cw_X4_take (by decide) rfl (Nat.le_of_ble_eq_true rfl) ?_
  refine at_aload_n dX4_take_0 rfl ?_
  refine at_get dX4_take_1 fl_X4_9 (zl_o rfl) rfl ?_
  rw [hs]
  refine at_iconst dX4_take_4 (v := nI 1) (by decide) ?_
  refine at_ltN (tgt := 17) dX4_take_5 (by decide) (by omega) (by omega) (fun c5 => ?_) (fun c5 => ?_)
  · omega
  · refine at_aload_n dX4_take_8 rfl ?_
    refine at_get dX4_take_9 fl_X4_9 (zl_o rfl) rfl ?_
    rw [hs]
    refine at_bipush dX4_take_12 (v := nI 16) (by decide) ?_
    refine at_leN (tgt := 19) dX4_take_14 (by decide) (by omega) (by omega) (fun c14 => ?_) (fun c14 => ?_)
    · refine at_aload_n dX4_take_19 rfl ?_
      refine at_dup dX4_take_20 rfl ?_
      refine at_get dX4_take_21 fl_X4_9 (zl_o rfl) rfl ?_
      rw [hs]
      refine at_iconst dX4_take_24 (v := nI 1) (by decide) ?_
      refine at_isubN dX4_take_25 (by omega) ?_
      rw [Nat.add_sub_cancel]
      refine at_lput dX4_take_26 (pl_X4_9 _) (fun i => ⟨_, rfl, Nat.le_of_ble_eq_true rfl, fun v => rfl⟩) rfl rfl ?_
      refine at_aload_n dX4_take_29 rfl ?_
      refine at_get dX4_take_30 fl_X4_15 (zl_o rfl) rfl ?_
      refine at_aload_n dX4_take_33 rfl ?_
      refine at_get dX4_take_34 fl_X4_9 (zl_o rfl) rfl ?_
      refine at_lald2 (a := 44) dX4_take_37 rfl (zsi2_s _ _ _ _) (by show _ < 16; omega) (by decide) ?_
      rw [show (zl_si κ 43 0 (nI ds.length)).2.1 44 ds.length = nI d from g]
      refine at_iret dX4_take_38 rfl (by omega) (by omega) ?_
      exact hp
    · omega
theorem zc_kindOf {d : Nat} (hd : d < 2147483648) (hp : post (some (.int (nI (d / 1000)))) n f) : zq_Runs l G D 0 0 yX4_kindOf [.int (nI d)] n f post := by
  refine zq_enter (cc := cX4_kindOf) (nL := 1) (ret := (some .int)) cw_X4_kindOf (by decide) rfl (Nat.le_of_ble_eq_true rfl) ?_
  refine at_iload_n dX4_kindOf_0 rfl ?_
  refine at_sipush dX4_kindOf_1 (v := nI 1000) (by decide) ?_
  refine at_idivN dX4_kindOf_4 (by omega) (by omega) (by omega) ?_
  refine at_iret dX4_kindOf_5 rfl (by omega) (by omega) ?_
  exact hp
theorem zc_firstOf {d : Nat} (hd : d < 2147483648) (hp : post (some (.int (nI (d / 100 % 10)))) n f) : zq_Runs l G D 0 0 yX4_firstOf [.int (nI d)] n f post := by
  refine zq_enter (cc := cX4_firstOf) (nL := 1) (ret := (some .int)) cw_X4_firstOf (by decide) rfl (Nat.le_of_ble_eq_true rfl) ?_
  refine at_iload_n dX4_firstOf_0 rfl ?_
  refine at_bipush dX4_firstOf_1 (v := nI 100) (by decide) ?_
  refine at_idivN dX4_firstOf_3 (by omega) (by omega) (by omega) ?_
  refine at_bipush dX4_firstOf_4 (v := nI 10) (by decide) ?_
  refine at_iremN dX4_firstOf_6 (by omega) (by omega) (by omega) ?_
  refine at_iret dX4_firstOf_7 rfl (by omega) (by omega) ?_
  exact hp
theorem zc_secondOf {d : Nat} (hd : d < 2147483648) (hp : post (some (.int (nI (d / 10 % 10)))) n f) : zq_Runs l G D 0 0 yX4_secondOf [.int (nI d)] n f post := by
  refine zq_enter (cc := cX4_secondOf) (nL := 1) (ret := (some .int)) cw_X4_secondOf (by decide) rfl (Nat.le_of_ble_eq_true rfl) ?_
  refine at_iload_n dX4_secondOf_0 rfl ?_
  refine at_bipush dX4_secondOf_1 (v := nI 10) (by decide) ?_
  refine at_idivN dX4_secondOf_3 (by omega) (by omega) (by omega) ?_
  refine at_bipush dX4_secondOf_4 (v := nI 10) (by decide) ?_
  refine at_iremN dX4_secondOf_6 (by omega) (by omega) (by omega) ?_
  refine at_iret dX4_secondOf_7 rfl (by omega) (by omega) ?_
  exact hp
theorem zc_thirdOf {d : Nat} (hd : d < 2147483648) (hp : post (some (.int (nI (d % 10)))) n f) : zq_Runs l G D 0 0 yX4_thirdOf [.int (nI d)] n f post := by
  refine zq_enter (cc := cX4_thirdOf) (nL := 1) (ret := (some .int)) cw_X4_thirdOf (by decide) rfl (Nat.le_of_ble_eq_true rfl) ?_
  refine at_iload_n dX4_thirdOf_0 rfl ?_
  refine at_bipush dX4_thirdOf_1 (v := nI 10) (by decide) ?_
  refine at_iremN dX4_thirdOf_3 (by omega) (by omega) (by omega) ?_
  refine at_iret dX4_thirdOf_4 rfl (by omega) (by omega) ?_
  exact hp
theorem zc_accept {v : Int32} (hp : post (some (.int v)) n (zl_h (zl_si κ 8 18 (nI 0)) ρ)) : zq_Runs l G D 0 0 yX11_accept [.ref 8, .int v] n (zl_h κ ρ) post := by
  refine zq_enter (cc := cX11_accept) (nL := 2) (ret := (some .int)) cw_X11_accept (by decide) rfl (Nat.le_of_ble_eq_true rfl) ?_
  refine at_aload_n dX11_accept_0 rfl ?_
  refine at_iconst dX11_accept_1 (v := nI 0) (by decide) ?_
  refine at_lput dX11_accept_2 (pl_X11_94 _) (fun i => ⟨_, rfl, Nat.le_of_ble_eq_true rfl, fun v => rfl⟩) rfl rfl ?_
  refine at_iload_n dX11_accept_5 rfl ?_
  refine at_iret dX11_accept_6 rfl (by omega) (by omega) ?_
  exact hp
def zslot (q : Nat) : Nat := if q ≤ 3 then q - 1 else q - 2
def zlref (κ : zl_S) (q : Nat) : zl_S := zl_sa (zl_si κ 8 18 (-(nI q))) 69 (zslot q) (κ.2.1 69 (zslot q) + nI 1)
theorem zc_refuse {q : Nat} (hq : q = 1 ∨ q = 2 ∨ q = 3 ∨ q = 5 ∨ q = 6) (hp : post (some (.int (-(nI q)))) n (zl_h (zlref κ q) ρ)) : zq_Runs l G D 0 0 yX11_refuse [.ref 8, .int (-(nI q))] n (zl_h κ ρ) post := by
  have hsl : zslot q < 5 := by rcases hq with rfl | rfl | rfl | rfl | rfl <;> decide
  have hlt : (-(nI q) < (-3 : Int32)) ↔ ¬ q ≤ 3 := by rcases hq with rfl | rfl | rfl | rfl | rfl <;> decide
  have fin : ∀ s, s = zslot q → zq_At l G (zq_rm D 0 0) mX11_refuse (zq_QF G post 0 0) 22 [(0, .ref 8), (1, .int (-(nI q)))] [.int (nI s)] n (zl_h (zl_si κ 8 18 (-(nI q))) ρ) 0 0 := by
    rintro s rfl
    refine at_istore_n dX11_refuse_22 rfl (by decide) ?_
    refine at_iload_n dX11_refuse_23 rfl ?_
    refine at_if_ltN (tgt := 46) dX11_refuse_24 (by decide) (by omega) (fun c24 => ?_) (fun c24 => ?_)
    · exact c24.elim
    · refine at_iload_n dX11_refuse_27 rfl ?_
      refine at_aload_n dX11_refuse_28 rfl ?_
      refine at_get dX11_refuse_29 fl_X11_82 (zl_o rfl) rfl ?_
      refine at_alen dX11_refuse_32 (zl_a (a := 69) rfl) (by decide) (v := nI 5) rfl ?_
      refine at_geN (tgt := 46) dX11_refuse_33 (by decide) (by omega) (by omega) (fun c33 => ?_) (fun c33 => ?_)
      · omega
      · refine at_aload_n dX11_refuse_36 rfl ?_
        refine at_get dX11_refuse_37 fl_X11_82 (zl_o rfl) rfl ?_
        refine at_iload_n dX11_refuse_40 rfl ?_
        refine at_dup2 dX11_refuse_41 rfl rfl ?_
        refine at_lald2 (a := 69) dX11_refuse_42 rfl rfl (by show _ < 5; omega) (by decide) ?_
        refine at_iconst dX11_refuse_43 (v := nI 1) (by decide) ?_
        refine at_iadd dX11_refuse_44 ?_
        refine at_last2 (a := 69) dX11_refuse_45 rfl rfl (by show _ < 5; omega) (by decide) ?_
        refine at_iload_n dX11_refuse_46 rfl ?_
        refine at_iret dX11_refuse_47 rfl (by omega) (by omega) ?_
        exact hp
  refine zq_enter (cc := cX11_refuse) (nL := 3) (ret := (some .int)) cw_X11_refuse (by decide) rfl (Nat.le_of_ble_eq_true rfl) ?_
  refine at_aload_n dX11_refuse_0 rfl ?_
  refine at_iload_n dX11_refuse_1 rfl ?_
  refine at_lput dX11_refuse_2 (pl_X11_94 _) (fun i => ⟨_, rfl, Nat.le_of_ble_eq_true rfl, fun v => rfl⟩) rfl rfl ?_
  refine at_iload_n dX11_refuse_5 rfl ?_
  refine at_bipush dX11_refuse_6 (v := -3) (by decide) ?_
  refine at_icmp_lt (tgt := 18) dX11_refuse_8 (by decide) (fun c8 => ?_) (fun c8 => ?_)
  · have h3 := hlt.mp c8
    have fin := fin (q - 2) (by unfold zslot; rw [if_neg h3])
    refine at_iload_n dX11_refuse_18 rfl ?_
    refine at_ineg dX11_refuse_19 ?_
    rw [Int32.neg_neg]
    refine at_iconst dX11_refuse_20 (v := nI 2) (by decide) ?_
    refine at_isubN dX11_refuse_21 (by omega) ?_
    exact fin
  · have h3 : q ≤ 3 := Classical.not_not.mp (fun h => c8 (hlt.mpr h))
    have fin := fin (q - 1) (by unfold zslot; rw [if_pos h3])
    refine at_iload_n dX11_refuse_11 rfl ?_
    refine at_ineg dX11_refuse_12 ?_
    rw [Int32.neg_neg]
    refine at_iconst dX11_refuse_13 (v := nI 1) (by decide) ?_
    refine at_isubN dX11_refuse_14 (by omega) ?_
    refine at_goto (tgt := 22) dX11_refuse_15 (by decide) ?_
    exact fin
theorem zc_settle_n {q : Nat} (hD : 1 ≤ D) (hq : q = 1 ∨ q = 2 ∨ q = 3 ∨ q = 5 ∨ q = 6) (hp : post (some (.int (-(nI q)))) n (zl_h (zlref κ q) ρ)) : zq_Runs l G D 0 0 yX11_settle [.ref 8, .int (-(nI q))] n (zl_h κ ρ) post := by
  refine zq_enter (cc := cX11_settle) (nL := 2) (ret := (some .int)) cw_X11_settle (by decide) rfl (Nat.le_of_ble_eq_true rfl) ?_
  refine at_iload_n dX11_settle_0 rfl ?_
  refine at_if_ge (tgt := 12) dX11_settle_1 (by decide) (fun c1 => ?_) (fun c1 => ?_)
  · exact absurd c1 (zneg_lt (by omega) (by omega))
  · refine at_aload_n dX11_settle_4 rfl ?_
    refine at_iload_n dX11_settle_5 rfl ?_
    refine at_callV1 (d := D - 1) dX11_settle_6 mv_X11_103 (zl_o rfl) (Nat.le_of_ble_eq_true rfl) (zq_r0 (by omega) (by omega) (by omega)) ?_
    refine zc_refuse hq ?_
    refine at_goto (tgt := 17) dX11_settle_9 (by decide) ?_
    refine at_iret dX11_settle_17 rfl (by omega) (by omega) ?_
    exact hp
theorem zc_settle_p {v : Int32} (hD : 1 ≤ D) (hv : 0 ≤ v) (hp : post (some (.int v)) n (zl_h (zl_si κ 8 18 (nI 0)) ρ)) : zq_Runs l G D 0 0 yX11_settle [.ref 8, .int v] n (zl_h κ ρ) post := by
  refine zq_enter (cc := cX11_settle) (nL := 2) (ret := (some .int)) cw_X11_settle (by decide) rfl (Nat.le_of_ble_eq_true rfl) ?_
  refine at_iload_n dX11_settle_0 rfl ?_
  refine at_if_ge (tgt := 12) dX11_settle_1 (by decide) (fun c1 => ?_) (fun c1 => ?_)
  · refine at_aload_n dX11_settle_12 rfl ?_
    refine at_iload_n dX11_settle_13 rfl ?_
    refine at_callV1 (d := D - 1) dX11_settle_14 mv_X11_117 (zl_o rfl) (Nat.le_of_ble_eq_true rfl) (zq_r0 (by omega) (by omega) (by omega)) ?_
    refine zc_accept ?_
    refine at_iret dX11_settle_17 rfl (by omega) (by omega) ?_
    exact hp
  · exact absurd hv c1
theorem zc_logCopy {p q : Nat} (hD : 1 ≤ D) (hpq : (p = 43 ∧ q = 45) ∨ (p = 45 ∧ q = 43)) (hp : ∀ g, (∀ j, j < 16 → g j = κ.2.1 (q + 1) j) → post none n (zl_h (zl_sA (zl_si κ p 0 (κ.1 q 0)) (p + 1) g) ρ)) : zq_Runs l G D 0 0 yX4_copyFrom [.ref p, .ref q] n (zl_h κ ρ) post := by
  rcases hpq with ⟨rfl, rfl⟩ | ⟨rfl, rfl⟩
  · have hp := hp (va_cpy (κ.2.1 46) (κ.2.1 44) 0 0 16) (fun j hj => (if_pos ⟨Nat.zero_le _, by omega⟩).trans (by rw [Nat.sub_zero, Nat.zero_add]))
    refine zq_enter (cc := cX4_copyFrom) (nL := 2) (ret := none) cw_X4_copyFrom (by decide) rfl (Nat.le_of_ble_eq_true rfl) ?_
    refine at_aload_n dX4_copyFrom_0 rfl ?_
    refine at_aload_n dX4_copyFrom_1 rfl ?_
    refine at_get dX4_copyFrom_2 fl_X4_9 (zl_o rfl) rfl ?_
    refine at_lput dX4_copyFrom_5 (pl_X4_9 _) (fun i => ⟨_, rfl, Nat.le_of_ble_eq_true rfl, fun v => rfl⟩) rfl rfl ?_
    refine at_aload_n dX4_copyFrom_8 rfl ?_
    refine at_get dX4_copyFrom_9 fl_X4_15 (zl_o rfl) rfl ?_
    refine at_iconst dX4_copyFrom_12 (v := nI 0) (by decide) ?_
    refine at_aload_n dX4_copyFrom_13 rfl ?_
    refine at_get dX4_copyFrom_14 fl_X4_15 (zl_o rfl) rfl ?_
    refine at_iconst dX4_copyFrom_17 (v := nI 0) (by decide) ?_
    refine at_bipush dX4_copyFrom_18 (v := nI 16) (by decide) ?_
    refine at_copyi dX4_copyFrom_20 ac_X4_19 (zl_a (a := 46) rfl) (zl_a (a := 44) rfl) (by decide) (by decide) (by decide) (by decide) (Nat.le_of_ble_eq_true rfl) ⟨by show 1 ≤ D; omega, by show 26 ≤ 60 * D; omega⟩ ?_
    rw [zl_up_A _ rfl]
    refine at_vret dX4_copyFrom_23 rfl (by omega) (by omega) ?_
    exact hp
  · have hp := hp (va_cpy (κ.2.1 44) (κ.2.1 46) 0 0 16) (fun j hj => (if_pos ⟨Nat.zero_le _, by omega⟩).trans (by rw [Nat.sub_zero, Nat.zero_add]))
    refine zq_enter (cc := cX4_copyFrom) (nL := 2) (ret := none) cw_X4_copyFrom (by decide) rfl (Nat.le_of_ble_eq_true rfl) ?_
    refine at_aload_n dX4_copyFrom_0 rfl ?_
    refine at_aload_n dX4_copyFrom_1 rfl ?_
    refine at_get dX4_copyFrom_2 fl_X4_9 (zl_o rfl) rfl ?_
    refine at_lput dX4_copyFrom_5 (pl_X4_9 _) (fun i => ⟨_, rfl, Nat.le_of_ble_eq_true rfl, fun v => rfl⟩) rfl rfl ?_
    refine at_aload_n dX4_copyFrom_8 rfl ?_
    refine at_get dX4_copyFrom_9 fl_X4_15 (zl_o rfl) rfl ?_
    refine at_iconst dX4_copyFrom_12 (v := nI 0) (by decide) ?_
    refine at_aload_n dX4_copyFrom_13 rfl ?_
    refine at_get dX4_copyFrom_14 fl_X4_15 (zl_o rfl) rfl ?_
    refine at_iconst dX4_copyFrom_17 (v := nI 0) (by decide) ?_
    refine at_bipush dX4_copyFrom_18 (v := nI 16) (by decide) ?_
    refine at_copyi dX4_copyFrom_20 ac_X4_19 (zl_a (a := 44) rfl) (zl_a (a := 46) rfl) (by decide) (by decide) (by decide) (by decide) (Nat.le_of_ble_eq_true rfl) ⟨by show 1 ≤ D; omega, by show 26 ≤ 60 * D; omega⟩ ?_
    rw [zl_up_A _ rfl]
    refine at_vret dX4_copyFrom_23 rfl (by omega) (by omega) ?_
    exact hp
end ZC6

