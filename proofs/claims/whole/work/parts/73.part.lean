/-! ===== the class: the reader reads a part ===== -/
/-- what reading from q to q' has left: code for what is spelled there -/
def zRes (o : Bool) (Sp : zX → Nat → Nat → Prop) (h : Nat) (q q' : zQ) (cs cs' : Nat) (cd cd' : Nat → Nat × Nat) : Prop :=
  q'.2.2 = 0 → q.2.2 = 0 ∧ cs' + q.1 ≤ cs + q'.1 ∧ q'.2.1 ≤ 50 ∧ (∀ k, k < cs → cd' k = cd k) ∧ ∃ e, Sp e q.1 q'.1 ∧ zCC o cd' e cs cs' h
/-- a method reads as f does -/
def zHR (l : Launch) (G : zq_G) (n : Nat) (ρ : Nat → zq_E) (N : Nat) (pl : Nat → Nat) (tk : Nat → Int32) (o : Bool) (D : Nat) (y : MethodName) (d : Nat) (f : zQ → zQ) (Sp : zX → Nat → Nat → Prop) (h : Nat) : Prop :=
  ∀ (κ : zl_S) (q : zQ) (cs : Nat) (cd : Nat → Nat × Nat) (post : Option Value → Nat → (Nat → zq_E) → Prop), zRw κ N pl tk o → zqk N q → zPs κ tk q cs cd → (q.2.2 = 0 → cs ≤ q.1 ∧ q.2.1 ≤ 50) →
    (∀ κ' cs' cd', zRf κ' κ → zPs κ' tk (f q) cs' cd' → zRes o Sp h q (f q) cs cs' cd cd' → post none n (zl_h κ' ρ)) → zq_Runs l G D 0 0 y [.ref 48, .int (nI d)] n (zl_h κ ρ) post
theorem zPs_bad {κ : zl_S} {tk : Nat → Int32} {q q' : zQ} {cs : Nat} {cd cd' : Nat → Nat × Nat} (h : zPs κ tk q cs cd) (hb : q.2.2 ≠ 0) (he : q'.2.2 = q.2.2) : zPs κ tk q' cs cd' := by
  obtain ⟨s1, s2, s3⟩ := h
  rcases s3 with ⟨a1, _⟩ | ⟨a1, a2, a3⟩
  · exact absurd a1 hb
  · exact ⟨s1, s2, Or.inr ⟨by rw [he]; exact a1, a2, by rw [he]; exact a3⟩⟩
theorem zPs_cd {κ : zl_S} {tk : Nat → Int32} {q : zQ} {cs : Nat} {cd cd' : Nat → Nat × Nat} (h : zPs κ tk q cs cd) (he : ∀ k, k < cs → cd' k = cd k) : zPs κ tk q cs cd' := by
  obtain ⟨s1, s2, s3⟩ := h
  refine ⟨s1, s2, ?_⟩
  rcases s3 with ⟨a1, a2, a3, a4, a5, a6⟩ | a
  · exact Or.inl ⟨a1, a2, a3, a4, a5, fun k hk => by rw [he k hk]; exact a6 k hk⟩
  · exact Or.inr a
theorem zPs_parts {κ : zl_S} {tk : Nat → Int32} {q : zQ} {cs j : Nat} {cd : Nat → Nat × Nat} (h : zPs κ tk q cs cd) (hf : q.2.2 = 0) : zPs (zl_si κ 48 6 (nI j)) tk (q.1, j, 0) cs cd := by
  obtain ⟨s1, s2, s3⟩ := h
  refine ⟨by rw [zsi2_k _ _ (by decide)]; exact s1, s2, ?_⟩
  rcases s3 with ⟨a1, a2, a3, a4, a5, a6⟩ | ⟨a1, _⟩
  · exact Or.inl ⟨rfl, by rw [zsi2_k _ _ (by decide)]; exact a2, by rw [zsi2_k _ _ (by decide)]; exact a3, zsi2_s _ _ _ _, by rw [zsi2_k _ _ (by decide)]; exact a5, a6⟩
  · exact absurd hf a1
theorem zPs_pbad {κ : zl_S} {tk : Nat → Int32} {q : zQ} {cs : Nat} {x : Int32} {cd : Nat → Nat × Nat} (h : zPs κ tk q cs cd) (hf : q.2.2 ≠ 0) : zPs (zl_si κ 48 6 x) tk q cs cd := by
  obtain ⟨s1, s2, s3⟩ := h
  refine ⟨by rw [zsi2_k _ _ (by decide)]; exact s1, s2, ?_⟩
  rcases s3 with ⟨a1, _⟩ | ⟨a1, a2, a3⟩
  · exact absurd a1 hf
  · exact Or.inr ⟨a1, by rw [zsi2_k _ _ (by decide)]; exact a2, by rw [zsi2_k _ _ (by decide)]; exact a3⟩
/-- first and last word -/
def zfw (o : Bool) : Nat := if o = true then 15 else 8
def zlwd (o : Bool) : Nat := if o = true then 21 else 15
def zwR (o : Bool) (q : zQ) (c : Nat → Nat) : Int32 := if q.2.2 = 0 ∧ zfw o ≤ c q.1 ∧ c q.1 ≤ zlwd o then nI (zwi o (c q.1) 0) else -1
section ZC20
variable {l : Launch} {G : zq_G} {D n : Nat} {ρ f : Nat → zq_E} {post : Option Value → Nat → (Nat → zq_E) → Prop}
variable {N : Nat} {c v pl : Nat → Nat} {tk : Nat → Int32} {κ : zl_S} {q : zQ} {cs : Nat} {cd : Nat → Nat × Nat} {o : Bool}
theorem zc_lawWord {f : Nat → zq_E} {T R : Int32} (h : (∃ k, 1 ≤ k ∧ k ≤ 8 ∧ T = nI (256 + k) ∧ R = nI (k - 1)) ∨ ((T.toInt < 257 ∨ 265 ≤ T.toInt) ∧ R = -1)) (hp : post (some (.int R)) n f) : zq_Runs l G D 0 0 yX8_lawWord [.int T] n f post := by
  refine zq_enter (cc := cX8_lawWord) (nL := 1) (ret := (some .int)) cw_X8_lawWord (by decide) rfl (Nat.le_of_ble_eq_true rfl) ?_
  rcases h with ⟨k, k1, k2, rfl, rfl⟩ | ⟨h, rfl⟩
  · refine at_iload_n dX8_lawWord_0 rfl ?_
    refine at_sipush dX8_lawWord_1 (v := nI 257) (by decide) ?_
    refine at_ltN (tgt := 22) dX8_lawWord_4 (by decide) (by omega) (by omega) (fun c4 => ?_) (fun c4 => ?_)
    · omega
    · refine at_iload_n dX8_lawWord_7 rfl ?_
      refine at_sipush dX8_lawWord_8 (v := nI 265) (by decide) ?_
      refine at_geN (tgt := 22) dX8_lawWord_11 (by decide) (by omega) (by omega) (fun c11 => ?_) (fun c11 => ?_)
      · omega
      · refine at_iload_n dX8_lawWord_14 rfl ?_
        refine at_sipush dX8_lawWord_15 (v := nI 257) (by decide) ?_
        refine at_isubN dX8_lawWord_18 (by omega) ?_
        rw [show 256 + k - 257 = k - 1 by omega]
        refine at_goto (tgt := 23) dX8_lawWord_19 (by decide) ?_
        refine at_iret dX8_lawWord_23 rfl (by omega) (by omega) ?_
        exact hp
  · have h257 : (nI 257).toInt = 257 := by decide
    have h265 : (nI 265).toInt = 265 := by decide
    refine at_iload_n dX8_lawWord_0 rfl ?_
    refine at_sipush dX8_lawWord_1 (v := nI 257) (by decide) ?_
    refine at_icmp_lt (tgt := 22) dX8_lawWord_4 (by decide) (fun c4 => ?_) (fun c4 => ?_)
    · refine at_iconst dX8_lawWord_22 (v := -1) rfl ?_
      refine at_iret dX8_lawWord_23 rfl (by omega) (by omega) ?_
      exact hp
    · refine at_iload_n dX8_lawWord_7 rfl ?_
      refine at_sipush dX8_lawWord_8 (v := nI 265) (by decide) ?_
      refine at_icmp_ge (tgt := 22) dX8_lawWord_11 (by decide) (fun c11 => ?_) (fun c11 => ?_)
      · refine at_iconst dX8_lawWord_22 (v := -1) rfl ?_
        refine at_iret dX8_lawWord_23 rfl (by omega) (by omega) ?_
        exact hp
      · exfalso
        rw [Int32.lt_iff_toInt_lt, h257] at c4
        rw [Int32.le_iff_toInt_le, h265] at c11
        omega
        skip
theorem zc_orderWord {f : Nat → zq_E} {T R : Int32} (h : (∃ k, k < 8 ∧ k ≠ 1 ∧ T = nI (263 + k) ∧ R = nI (if k = 0 then 0 else if k = 7 then 12 else k - 1)) ∨ ((T.toInt < 263 ∨ 270 < T.toInt ∨ T = nI 264) ∧ R = -1)) (hp : post (some (.int R)) n f) : zq_Runs l G D 0 0 yX8_orderWord [.int T] n f post := by
  refine zq_enter (cc := cX8_orderWord) (nL := 1) (ret := (some .int)) cw_X8_orderWord (by decide) rfl (Nat.le_of_ble_eq_true rfl) ?_
  refine at_iload_n dX8_orderWord_0 rfl ?_
  rcases h with ⟨k, k1, k2, rfl, rfl⟩ | ⟨h, rfl⟩
  · rcases (show k = 0 ∨ k = 2 ∨ k = 3 ∨ k = 4 ∨ k = 5 ∨ k = 6 ∨ k = 7 by omega) with rfl | rfl | rfl | rfl | rfl | rfl | rfl
    · refine at_tableIn (tgt := 48) dX8_orderWord_1 (by decide) (by decide) rfl (by decide) ?_
      refine at_iconst dX8_orderWord_48 (v := nI 0) (by decide) ?_
      refine at_iret dX8_orderWord_49 rfl (by omega) (by omega) ?_
      exact hp
    · refine at_tableIn (tgt := 50) dX8_orderWord_1 (by decide) (by decide) rfl (by decide) ?_
      refine at_iconst dX8_orderWord_50 (v := nI 1) (by decide) ?_
      refine at_iret dX8_orderWord_51 rfl (by omega) (by omega) ?_
      exact hp
    · refine at_tableIn (tgt := 52) dX8_orderWord_1 (by decide) (by decide) rfl (by decide) ?_
      refine at_iconst dX8_orderWord_52 (v := nI 2) (by decide) ?_
      refine at_iret dX8_orderWord_53 rfl (by omega) (by omega) ?_
      exact hp
    · refine at_tableIn (tgt := 54) dX8_orderWord_1 (by decide) (by decide) rfl (by decide) ?_
      refine at_iconst dX8_orderWord_54 (v := nI 3) (by decide) ?_
      refine at_iret dX8_orderWord_55 rfl (by omega) (by omega) ?_
      exact hp
    · refine at_tableIn (tgt := 56) dX8_orderWord_1 (by decide) (by decide) rfl (by decide) ?_
      refine at_iconst dX8_orderWord_56 (v := nI 4) (by decide) ?_
      refine at_iret dX8_orderWord_57 rfl (by omega) (by omega) ?_
      exact hp
    · refine at_tableIn (tgt := 58) dX8_orderWord_1 (by decide) (by decide) rfl (by decide) ?_
      refine at_iconst dX8_orderWord_58 (v := nI 5) (by decide) ?_
      refine at_iret dX8_orderWord_59 rfl (by omega) (by omega) ?_
      exact hp
    · refine at_tableIn (tgt := 60) dX8_orderWord_1 (by decide) (by decide) rfl (by decide) ?_
      refine at_bipush dX8_orderWord_60 (v := nI 12) (by decide) ?_
      refine at_iret dX8_orderWord_62 rfl (by omega) (by omega) ?_
      exact hp
  · rcases h with h | h | rfl
    · refine at_tableOut (tgt := 63) dX8_orderWord_1 (Or.inl (by omega)) (by decide) ?_
      refine at_iconst dX8_orderWord_63 (v := -1) rfl ?_
      refine at_iret dX8_orderWord_64 rfl (by omega) (by omega) ?_
      exact hp
    · refine at_tableOut (tgt := 63) dX8_orderWord_1 (Or.inr (by omega)) (by decide) ?_
      refine at_iconst dX8_orderWord_63 (v := -1) rfl ?_
      refine at_iret dX8_orderWord_64 rfl (by omega) (by omega) ?_
      exact hp
    · refine at_tableIn (tgt := 63) dX8_orderWord_1 (by decide) (by decide) rfl (by decide) ?_
      refine at_iconst dX8_orderWord_63 (v := -1) rfl ?_
      refine at_iret dX8_orderWord_64 rfl (by omega) (by omega) ?_
      exact hp
end ZC20

