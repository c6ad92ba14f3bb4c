/-! ===== the class: an order whole; a text and its clauses ===== -/
section ZC32
variable {l : Launch} {G : zq_G} {D n : Nat} {ρ f : Nat → zq_E} {post : Option Value → Nat → (Nat → zq_E) → Prop}
variable {N : Nat} {c v pl : Nat → Nat} {tk : Nat → Int32} {κ : zl_S} {q : zQ} {cs : Nat} {cd : Nat → Nat × Nat}
/-- an order, as it is read: k the token behind its action -/
def zOd (c v : Nat → Nat) (q q1 q' : zQ) (cs cs' : Nat) (cd cd' : Nat → Nat × Nat) (F F' : Nat → Int32) : Prop :=
  ∃ F1 : Nat → Int32, zAc c v q q1 cs cs' cd cd' F F1 ∧ zTi c v q1 q' F1 F' ∧ (∀ i, i ≠ 1 → F' i = F1 i) ∧ F1 1 = F 1
theorem zc_readOrder {cr : Nat} {F : Nat → Int32} (hD : 32 ≤ D) (hT : zTm N c v pl tk) (hR : zRw κ N pl tk true) (hq : zqk N q) (hs : zPs κ tk q cs cd) (hb : q.2.2 = 0 → cs ≤ q.1 ∧ q.2.1 ≤ 50) (hC : zCl ρ cr F)
    (hp : ∀ κ' cs' cd' F', zRf κ' κ → zPs κ' tk (zpTimes c v pl (zqAc c v pl q)) cs' cd' → zOd c v q (zqAc c v pl q) (zpTimes c v pl (zqAc c v pl q)) cs cs' cd cd' F F' → F' 5 = F 5 → post none n (zl_h κ' (va_up ρ cr (zce F')))) : zq_Runs l G D 0 0 yX8_readOrder [.ref 48, .ref cr] n (zl_h κ ρ) post := by
  have hgS := zgd_S (v := v) (pl := pl) (fw := 15) (lw := 21) (o := true) hT.1 hT.2.1 hT.2.2.2.1 (by decide) 8
  have hgM := fun k (hk : k ≠ 0) => zgd_mu (k := k) hT.1 hT.2.1 hT.2.2.2.1 hk
  have hq1 : zqk N (zqAc c v pl q) := by
    unfold zqAc
    split
    · next h =>
      have := (zpt_c hT (zqk_w hq) (by decide) h).2.1
      exact (hgS _ (hgM 23 (by decide) _ (hgS _ (hgM 11 (by decide) _ (hgS _ (zqk_nx hq this)).1).1).1).1).1
    · split
      · next h => exact (hgS _ (zqk_nx hq (zpt_c hT (zqk_w hq) (by decide) h).2.1)).1
      · split
        · next h => exact (hgS _ (zqk_nx hq (zpt_c hT (zqk_w hq) (by decide) h).2.1)).1
        · exact (hgM 26 (by decide) q hq).1
  refine zq_enter (cc := cX8_readOrder) (nL := 2) (ret := none) cw_X8_readOrder (by decide) rfl (Nat.le_of_ble_eq_true rfl) ?_
  refine zc_act hD hT hR hq hs hb hC (fun κ1 cs1 cd1 F1 g1 g2 g3 g4 g5 => ?_)
  refine zc_times (by omega) hT (zRw_f g1 hR) hq1 g2 (zCl_s hC) (fun κ2 F2 j1 j2 j3 j4 => ?_)
  rw [zce_up]
  exact hp κ2 cs1 cd1 F2 (zRf_t j1 g1) j2 ⟨F1, g3, j4, j3, g5⟩ ((j3 5 (by decide)).trans g4)
end ZC32
theorem zq_oi : Cond.instanceMethod Lib.objectInit ∈ zq_ws := zq_in (zq_t1 (List.mem_of_getElem? (i := 28) rfl)) rfl
theorem zq_oc : Cond.code Lib.objectInit ⟨#[0xb1]⟩ 1 none ∈ zq_ws := zq_in (zq_t1 (List.mem_of_getElem? (i := 29) rfl)) rfl
theorem dX1_init_0 : decode cX1_init 0 = .ok (.aload_n 0, 1) := by decide +kernel
theorem dX1_init_1 : decode cX1_init 1 = .ok (.invokespecial 3, 3) := by decide +kernel
theorem dX1_init_4 : decode cX1_init 4 = .ok (.aload_n 0, 1) := by decide +kernel
theorem dX1_init_5 : decode cX1_init 5 = .ok (.iconst 3, 1) := by decide +kernel
theorem dX1_init_6 : decode cX1_init 6 = .ok (.putfield 9, 3) := by decide +kernel
theorem dX1_init_9 : decode cX1_init 9 = .ok (.aload_n 0, 1) := by decide +kernel
theorem dX1_init_10 : decode cX1_init 10 = .ok (.iconst 1, 1) := by decide +kernel
theorem dX1_init_11 : decode cX1_init 11 = .ok (.putfield 15, 3) := by decide +kernel
theorem dX1_init_14 : decode cX1_init 14 = .ok (.aload_n 0, 1) := by decide +kernel
theorem dX1_init_15 : decode cX1_init 15 = .ok (.iconst (-1), 1) := by decide +kernel
theorem dX1_init_16 : decode cX1_init 16 = .ok (.putfield 18, 3) := by decide +kernel
theorem dX1_init_19 : decode cX1_init 19 = .ok (.aload_n 0, 1) := by decide +kernel
theorem dX1_init_20 : decode cX1_init 20 = .ok (.iconst (-1), 1) := by decide +kernel
theorem dX1_init_21 : decode cX1_init 21 = .ok (.putfield 21, 3) := by decide +kernel
theorem dX1_init_24 : decode cX1_init 24 = .ok (.aload_n 0, 1) := by decide +kernel
theorem dX1_init_25 : decode cX1_init 25 = .ok (.iconst (-1), 1) := by decide +kernel
theorem dX1_init_26 : decode cX1_init 26 = .ok (.putfield 24, 3) := by decide +kernel
theorem dX1_init_29 : decode cX1_init 29 = .ok (.aload_n 0, 1) := by decide +kernel
theorem dX1_init_30 : decode cX1_init 30 = .ok (.iconst (-1), 1) := by decide +kernel
theorem dX1_init_31 : decode cX1_init 31 = .ok (.putfield 27, 3) := by decide +kernel
theorem dX1_init_34 : decode cX1_init 34 = .ok (.return_, 1) := by decide +kernel
abbrev mX1_init : zq_M := (cX1_init, RX1, "<init>", none, 1)
theorem dX10_addClause_0 : decode cX10_addClause 0 = .ok (.new 9, 3) := by decide +kernel
theorem dX10_addClause_3 : decode cX10_addClause 3 = .ok (.dup, 1) := by decide +kernel
theorem dX10_addClause_4 : decode cX10_addClause 4 = .ok (.invokespecial 25, 3) := by decide +kernel
theorem dX10_addClause_7 : decode cX10_addClause 7 = .ok (.astore_n 1, 1) := by decide +kernel
theorem dX10_addClause_8 : decode cX10_addClause 8 = .ok (.aload_n 0, 1) := by decide +kernel
theorem dX10_addClause_9 : decode cX10_addClause 9 = .ok (.getfield 17, 3) := by decide +kernel
theorem dX10_addClause_12 : decode cX10_addClause 12 = .ok (.ifCond .lt 32, 3) := by decide +kernel
theorem dX10_addClause_15 : decode cX10_addClause 15 = .ok (.aload_n 0, 1) := by decide +kernel
theorem dX10_addClause_16 : decode cX10_addClause 16 = .ok (.getfield 17, 3) := by decide +kernel
theorem dX10_addClause_19 : decode cX10_addClause 19 = .ok (.bipush 12, 2) := by decide +kernel
theorem dX10_addClause_21 : decode cX10_addClause 21 = .ok (.if_icmp .ge 23, 3) := by decide +kernel
theorem dX10_addClause_24 : decode cX10_addClause 24 = .ok (.aload_n 0, 1) := by decide +kernel
theorem dX10_addClause_25 : decode cX10_addClause 25 = .ok (.getfield 11, 3) := by decide +kernel
theorem dX10_addClause_28 : decode cX10_addClause 28 = .ok (.aload_n 0, 1) := by decide +kernel
theorem dX10_addClause_29 : decode cX10_addClause 29 = .ok (.getfield 17, 3) := by decide +kernel
theorem dX10_addClause_32 : decode cX10_addClause 32 = .ok (.aload_n 1, 1) := by decide +kernel
theorem dX10_addClause_33 : decode cX10_addClause 33 = .ok (.aastore, 1) := by decide +kernel
theorem dX10_addClause_34 : decode cX10_addClause 34 = .ok (.aload_n 0, 1) := by decide +kernel
theorem dX10_addClause_35 : decode cX10_addClause 35 = .ok (.dup, 1) := by decide +kernel
theorem dX10_addClause_36 : decode cX10_addClause 36 = .ok (.getfield 17, 3) := by decide +kernel
theorem dX10_addClause_39 : decode cX10_addClause 39 = .ok (.iconst 1, 1) := by decide +kernel
theorem dX10_addClause_40 : decode cX10_addClause 40 = .ok (.iadd, 1) := by decide +kernel
theorem dX10_addClause_41 : decode cX10_addClause 41 = .ok (.putfield 17, 3) := by decide +kernel
theorem dX10_addClause_44 : decode cX10_addClause 44 = .ok (.aload_n 1, 1) := by decide +kernel
theorem dX10_addClause_45 : decode cX10_addClause 45 = .ok (.areturn, 1) := by decide +kernel
abbrev mX10_addClause : zq_M := (cX10_addClause, RX10, "addClause", (some (.object "LetterQuay$Clause")), 2)
section ZC33
variable {l : Launch} {G : zq_G} {D n : Nat} {ρ f : Nat → zq_E} {post : Option Value → Nat → (Nat → zq_E) → Prop} {κ : zl_S}
/-- a clause's numbers at first -/
def zF0 (i : Nat) : Int32 := if i = 0 then 3 else if i = 1 then 1 else -1
theorem zc_clauseInit {cr : Nat} {F : Nat → Int32} (hD : 1 ≤ D) (hC : zCl ρ cr F) (hp : post none n (zl_h κ (va_up ρ cr (zce zF0)))) : zq_Runs l G D 0 0 yX1_init [.ref cr] n (zl_h κ ρ) post := by
  have hC1 := fun F' => zCl_s (F' := F') hC
  refine zq_enter (cc := cX1_init) (nL := 1) (ret := none) cw_X1_init (by decide) rfl (Nat.le_of_ble_eq_true rfl) ?_
  refine at_aload_n dX1_init_0 rfl ?_
  refine at_objInit dX1_init_1 oi_X1_3 zq_oi zq_oc (Nat.le_of_ble_eq_true rfl) ⟨by show 1 ≤ D; omega, by show 20 ≤ 60 * D; omega⟩ ?_
  refine at_aload_n dX1_init_4 rfl ?_
  refine at_iconst dX1_init_5 (v := nI 3) (by decide) ?_
  refine at_cput dX1_init_6 (pl_X1_9 _) hC (by decide) ?_
  refine at_aload_n dX1_init_9 rfl ?_
  refine at_iconst dX1_init_10 (v := nI 1) (by decide) ?_
  refine at_cput dX1_init_11 (pl_X1_15 _) (hC1 _) (by decide) ?_
  rw [zce_up]
  refine at_aload_n dX1_init_14 rfl ?_
  refine at_iconst dX1_init_15 (v := -1) rfl ?_
  refine at_cput dX1_init_16 (pl_X1_18 _) (hC1 _) (by decide) ?_
  rw [zce_up]
  refine at_aload_n dX1_init_19 rfl ?_
  refine at_iconst dX1_init_20 (v := -1) rfl ?_
  refine at_cput dX1_init_21 (pl_X1_21 _) (hC1 _) (by decide) ?_
  rw [zce_up]
  refine at_aload_n dX1_init_24 rfl ?_
  refine at_iconst dX1_init_25 (v := -1) rfl ?_
  refine at_cput dX1_init_26 (pl_X1_24 _) (hC1 _) (by decide) ?_
  rw [zce_up]
  refine at_aload_n dX1_init_29 rfl ?_
  refine at_iconst dX1_init_30 (v := -1) rfl ?_
  refine at_cput dX1_init_31 (pl_X1_27 _) (hC1 _) (by decide) ?_
  rw [zce_up]
  refine at_vret dX1_init_34 rfl (by omega) (by omega) ?_
  exact hp
end ZC33

