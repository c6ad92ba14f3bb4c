/-! ===== the law: its loop, its start (written by mklaw.py) ===== -/
section ZK41
variable {l : Launch} {G : zq_G} {nm : String} {L : Nat} {xs : Nat → Int32}
theorem zsub6 {a L : Nat} (ha : a < 100000) (hL : L < 100000) : nI L - nI 6 < nI a ↔ L < a + 6 := by
  have e : (nI L - nI 6).toInt = (L : Int) - 6 := by
    rw [Int32.toInt_sub, nI_toInt (by omega), nI_toInt (by omega)]
    exact Int.bmod_eq_of_le (by omega) (by omega)
  rw [Int32.lt_iff_toInt_lt, e, nI_toInt (by omega)]
  omega
theorem zlw_loop (hL : L ≤ 3072) : ∀ k i, i + k = 513 → zLP l G nm L xs i := by
  intro k
  induction k with
  | zero =>
    intro i hi n κ σ ρ cells slots h hc hs
    refine at_iload_n dL_law_18 rfl ?_
    refine at_aload_n dL_law_19 rfl ?_
    refine at_slen dL_law_20 ?_
    refine at_bipush dL_law_21 (v := nI 6) (by decide) ?_
    refine at_isub dL_law_23 ?_
    refine at_icmp_gt (tgt := 1239) dL_law_24 (by decide) (fun c => ?_) (fun c => ?_)
    · refine at_iconst dL_law_1239 (v := 1) rfl ?_
      exact at_lret1 dL_law_1240 (by omega) (by omega)
    · exact absurd ((zsub6 (by omega) (by omega)).mpr (by omega)) c
  | succ k ih =>
    intro i hi n κ σ ρ cells slots h hc hs
    have hk := ih (i + 1) (by omega)
    refine at_iload_n dL_law_18 rfl ?_
    refine at_aload_n dL_law_19 rfl ?_
    refine at_slen dL_law_20 ?_
    refine at_bipush dL_law_21 (v := nI 6) (by decide) ?_
    refine at_isub dL_law_23 ?_
    refine at_icmp_gt (tgt := 1239) dL_law_24 (by decide) (fun c => ?_) (fun c => ?_)
    · refine at_iconst dL_law_1239 (v := 1) rfl ?_
      exact at_lret1 dL_law_1240 (by omega) (by omega)
    · have hi6 : 6 * i + 6 ≤ L := by
        rcases Nat.lt_or_ge L (6 * i + 6) with g | g
        · exact absurd ((zsub6 (by omega) (by omega)).mpr g) c
        · exact g
      refine at_aload_n dL_law_27 rfl ?_
      refine at_iload_n dL_law_28 rfl ?_
      refine at_sldN dL_law_29 rfl (by omega) (by omega) ?_
      refine at_bipush dL_law_30 (v := nI 63) (by decide) ?_
      refine at_iand dL_law_32 ?_
      obtain ⟨u, hu, eu⟩ := zand63 (xs (6 * i))
      rw [eu]
      match u, hu with
      | 0, _ => exact at_tabIn (tgt := 216) dL_law_33 (by decide) (by decide) rfl (by decide) (zlw_0 hL hi6 hk h hc hs)
      | 1, _ => exact at_tabIn (tgt := 239) dL_law_33 (by decide) (by decide) rfl (by decide) (zlw_1 hL hi6 hk h hc hs)
      | 2, _ => exact at_tabIn (tgt := 272) dL_law_33 (by decide) (by decide) rfl (by decide) (zlw_2 hL hi6 hk h hc hs)
      | 3, _ => exact at_tabIn (tgt := 295) dL_law_33 (by decide) (by decide) rfl (by decide) (zlw_3 hL hi6 hk h hc hs)
      | 4, _ => exact at_tabIn (tgt := 338) dL_law_33 (by decide) (by decide) rfl (by decide) (zlw_4 hL hi6 hk h hc hs)
      | 5, _ => exact at_tabIn (tgt := 381) dL_law_33 (by decide) (by decide) rfl (by decide) (zlw_5 hL hi6 hk h hc hs)
      | 6, _ => exact at_tabIn (tgt := 394) dL_law_33 (by decide) (by decide) rfl (by decide) (zlw_6 hL hi6 hk h hc hs)
      | 7, _ => exact at_tabIn (tgt := 427) dL_law_33 (by decide) (by decide) rfl (by decide) (zlw_7 hL hi6 hk h hc hs)
      | 8, _ => exact at_tabIn (tgt := 490) dL_law_33 (by decide) (by decide) rfl (by decide) (zlw_8 hL hi6 hk h hc hs)
      | 9, _ => exact at_tabIn (tgt := 513) dL_law_33 (by decide) (by decide) rfl (by decide) (zlw_9 hL hi6 hk h hc hs)
      | 10, _ => exact at_tabIn (tgt := 526) dL_law_33 (by decide) (by decide) rfl (by decide) (zlw_10 hL hi6 hk h hc hs)
      | 11, _ => exact at_tabIn (tgt := 539) dL_law_33 (by decide) (by decide) rfl (by decide) (zlw_11 hL hi6 hk h hc hs)
      | 12, _ => exact at_tabIn (tgt := 552) dL_law_33 (by decide) (by decide) rfl (by decide) (zlw_12 hL hi6 hk h hc hs)
      | 13, _ => exact at_tabIn (tgt := 565) dL_law_33 (by decide) (by decide) rfl (by decide) (zlw_13 hL hi6 hk h hc hs)
      | 14, _ => exact at_tabIn (tgt := 578) dL_law_33 (by decide) (by decide) rfl (by decide) (zlw_14 hL hi6 hk h hc hs)
      | 15, _ => exact at_tabIn (tgt := 591) dL_law_33 (by decide) (by decide) rfl (by decide) (zlw_15 hL hi6 hk h hc hs)
      | 16, _ => exact at_tabIn (tgt := 614) dL_law_33 (by decide) (by decide) rfl (by decide) (zlw_16 hL hi6 hk h hc hs)
      | 17, _ => exact at_tabIn (tgt := 657) dL_law_33 (by decide) (by decide) rfl (by decide) (zlw_17 hL hi6 hk h hc hs)
      | 18, _ => exact at_tabIn (tgt := 680) dL_law_33 (by decide) (by decide) rfl (by decide) (zlw_18 hL hi6 hk h hc hs)
      | 19, _ => exact at_tabIn (tgt := 703) dL_law_33 (by decide) (by decide) rfl (by decide) (zlw_19 hL hi6 hk h hc hs)
      | 20, _ => exact at_tabIn (tgt := 716) dL_law_33 (by decide) (by decide) rfl (by decide) (zlw_20 hL hi6 hk h hc hs)
      | 21, _ => exact at_tabIn (tgt := 729) dL_law_33 (by decide) (by decide) rfl (by decide) (zlw_21 hL hi6 hk h hc hs)
      | 22, _ => exact at_tabIn (tgt := 762) dL_law_33 (by decide) (by decide) rfl (by decide) (zlw_22 hL hi6 hk h hc hs)
      | 23, _ => exact at_tabIn (tgt := 785) dL_law_33 (by decide) (by decide) rfl (by decide) (zlw_23 hL hi6 hk h hc hs)
      | 24, _ => exact at_tabIn (tgt := 798) dL_law_33 (by decide) (by decide) rfl (by decide) (zlw_24 hL hi6 hk h hc hs)
      | 25, _ => exact at_tabIn (tgt := 821) dL_law_33 (by decide) (by decide) rfl (by decide) (zlw_25 hL hi6 hk h hc hs)
      | 26, _ => exact at_tabIn (tgt := 844) dL_law_33 (by decide) (by decide) rfl (by decide) (zlw_26 hL hi6 hk h hc hs)
      | 27, _ => exact at_tabIn (tgt := 877) dL_law_33 (by decide) (by decide) rfl (by decide) (zlw_27 hL hi6 hk h hc hs)
      | 28, _ => exact at_tabIn (tgt := 890) dL_law_33 (by decide) (by decide) rfl (by decide) (zlw_28 hL hi6 hk h hc hs)
      | 29, _ => exact at_tabIn (tgt := 913) dL_law_33 (by decide) (by decide) rfl (by decide) (zlw_29 hL hi6 hk h hc hs)
      | 30, _ => exact at_tabIn (tgt := 936) dL_law_33 (by decide) (by decide) rfl (by decide) (zlw_30 hL hi6 hk h hc hs)
      | 31, _ => exact at_tabIn (tgt := 959) dL_law_33 (by decide) (by decide) rfl (by decide) (zlw_31 hL hi6 hk h hc hs)
      | 32, _ => exact at_tabIn (tgt := 982) dL_law_33 (by decide) (by decide) rfl (by decide) (zlw_32 hL hi6 hk h hc hs)
      | 33, _ => exact at_tabIn (tgt := 1005) dL_law_33 (by decide) (by decide) rfl (by decide) (zlw_33 hL hi6 hk h hc hs)
      | 34, _ => exact at_tabIn (tgt := 1028) dL_law_33 (by decide) (by decide) rfl (by decide) (zlw_34 hL hi6 hk h hc hs)
      | 35, _ => exact at_tabIn (tgt := 1062) dL_law_33 (by decide) (by decide) rfl (by decide) (zlw_35 hL hi6 hk h hc hs)
      | 36, _ => exact at_tabIn (tgt := 1085) dL_law_33 (by decide) (by decide) rfl (by decide) (zlw_36 hL hi6 hk h hc hs)
      | 37, _ => exact at_tabIn (tgt := 1118) dL_law_33 (by decide) (by decide) rfl (by decide) (zlw_37 hL hi6 hk h hc hs)
      | 38, _ => exact at_tabIn (tgt := 1151) dL_law_33 (by decide) (by decide) rfl (by decide) (zlw_38 hL hi6 hk h hc hs)
      | 39, _ => exact at_tabIn (tgt := 1174) dL_law_33 (by decide) (by decide) rfl (by decide) (zlw_39 hL hi6 hk h hc hs)
      | 40, _ => exact at_tabIn (tgt := 1197) dL_law_33 (by decide) (by decide) rfl (by decide) (zlw_40 hL hi6 hk h hc hs)
      | 41, _ => exact at_tabIn (tgt := 1220) dL_law_33 (by decide) (by decide) rfl (by decide) (zlw_41 hL hi6 hk h hc hs)
      | 42, _ => exact at_tabOut (tgt := 1233) dL_law_33 (Or.inr (by decide)) (by decide) (zlw_next hL hi6 hk h (by omega) (by omega))
      | 43, _ => exact at_tabOut (tgt := 1233) dL_law_33 (Or.inr (by decide)) (by decide) (zlw_next hL hi6 hk h (by omega) (by omega))
      | 44, _ => exact at_tabOut (tgt := 1233) dL_law_33 (Or.inr (by decide)) (by decide) (zlw_next hL hi6 hk h (by omega) (by omega))
      | 45, _ => exact at_tabOut (tgt := 1233) dL_law_33 (Or.inr (by decide)) (by decide) (zlw_next hL hi6 hk h (by omega) (by omega))
      | 46, _ => exact at_tabOut (tgt := 1233) dL_law_33 (Or.inr (by decide)) (by decide) (zlw_next hL hi6 hk h (by omega) (by omega))
      | 47, _ => exact at_tabOut (tgt := 1233) dL_law_33 (Or.inr (by decide)) (by decide) (zlw_next hL hi6 hk h (by omega) (by omega))
      | 48, _ => exact at_tabOut (tgt := 1233) dL_law_33 (Or.inr (by decide)) (by decide) (zlw_next hL hi6 hk h (by omega) (by omega))
      | 49, _ => exact at_tabOut (tgt := 1233) dL_law_33 (Or.inr (by decide)) (by decide) (zlw_next hL hi6 hk h (by omega) (by omega))
      | 50, _ => exact at_tabOut (tgt := 1233) dL_law_33 (Or.inr (by decide)) (by decide) (zlw_next hL hi6 hk h (by omega) (by omega))
      | 51, _ => exact at_tabOut (tgt := 1233) dL_law_33 (Or.inr (by decide)) (by decide) (zlw_next hL hi6 hk h (by omega) (by omega))
      | 52, _ => exact at_tabOut (tgt := 1233) dL_law_33 (Or.inr (by decide)) (by decide) (zlw_next hL hi6 hk h (by omega) (by omega))
      | 53, _ => exact at_tabOut (tgt := 1233) dL_law_33 (Or.inr (by decide)) (by decide) (zlw_next hL hi6 hk h (by omega) (by omega))
      | 54, _ => exact at_tabOut (tgt := 1233) dL_law_33 (Or.inr (by decide)) (by decide) (zlw_next hL hi6 hk h (by omega) (by omega))
      | 55, _ => exact at_tabOut (tgt := 1233) dL_law_33 (Or.inr (by decide)) (by decide) (zlw_next hL hi6 hk h (by omega) (by omega))
      | 56, _ => exact at_tabOut (tgt := 1233) dL_law_33 (Or.inr (by decide)) (by decide) (zlw_next hL hi6 hk h (by omega) (by omega))
      | 57, _ => exact at_tabOut (tgt := 1233) dL_law_33 (Or.inr (by decide)) (by decide) (zlw_next hL hi6 hk h (by omega) (by omega))
      | 58, _ => exact at_tabOut (tgt := 1233) dL_law_33 (Or.inr (by decide)) (by decide) (zlw_next hL hi6 hk h (by omega) (by omega))
      | 59, _ => exact at_tabOut (tgt := 1233) dL_law_33 (Or.inr (by decide)) (by decide) (zlw_next hL hi6 hk h (by omega) (by omega))
      | 60, _ => exact at_tabOut (tgt := 1233) dL_law_33 (Or.inr (by decide)) (by decide) (zlw_next hL hi6 hk h (by omega) (by omega))
      | 61, _ => exact at_tabOut (tgt := 1233) dL_law_33 (Or.inr (by decide)) (by decide) (zlw_next hL hi6 hk h (by omega) (by omega))
      | 62, _ => exact at_tabOut (tgt := 1233) dL_law_33 (Or.inr (by decide)) (by decide) (zlw_next hL hi6 hk h (by omega) (by omega))
      | 63, _ => exact at_tabOut (tgt := 1233) dL_law_33 (Or.inr (by decide)) (by decide) (zlw_next hL hi6 hk h (by omega) (by omega))
      | u + 64, hu => exact absurd hu (by omega)
def zf00 (k : Nat) : zq_E := if k < 8 then zq_o8 k else zq_dead
theorem zlw_all (hL : L ≤ 3072) : zq_At l G room_1 (mL nm) (zLQ G L xs) 0 [(0, .ref 0)] [] 0 zf00 0 0 := by
  refine at_new (ci := 11) (T := TX11) (N := 19) (fs := [.null, .null, .null, .null, .null, .null, .null, .int 0, .null, .null, .null, .null, .null, .null, .null, .int 0, .int 0, .int 0, .int 0]) dL_law_0 rfl cl_L_7 zq_i11 zq_n11 (fun G j hj => ?_) (by show 0 + 1 ≤ 600000; omega) (by show 0 + 19 ≤ 7302250; omega) ?_
  · rcases (show j = 0 ∨ j = 1 ∨ j = 2 ∨ j = 3 ∨ j = 4 ∨ j = 5 ∨ j = 6 ∨ j = 7 ∨ j = 8 ∨ j = 9 ∨ j = 10 ∨ j = 11 ∨ j = 12 ∨ j = 13 ∨ j = 14 ∨ j = 15 ∨ j = 16 ∨ j = 17 ∨ j = 18 by omega) with rfl | rfl | rfl | rfl | rfl | rfl | rfl | rfl | rfl | rfl | rfl | rfl | rfl | rfl | rfl | rfl | rfl | rfl | rfl <;> rfl
  refine at_dup dL_law_3 rfl ?_
  refine at_callC (d := 88) [] dL_law_4 mc_L_9 rfl (Nat.le_of_ble_eq_true rfl) ⟨by decide, by decide, by show 1 + 61 ≤ 600000; omega, by show 19 + 9035 ≤ 7302250; omega⟩ (zq_vo_ret zq_vo_11) ?_
  refine zc_i11 (B := 8) (by decide) rfl (va_up_self _ _ _) (fun A1 A2 A3 h1 _ _ => ?_)
  rw [zL61_h rfl]
  show zq_At l G room_1 (mL nm) (zLQ G L xs) 7 [(0, .ref 0)] [.ref 8] 62 (zl_h (zκ0 A1 A2 A3) zf00) 62 9054
  refine at_astore_n dL_law_7 rfl (Nat.le_of_ble_eq_true rfl) ?_
  refine at_new (ci := 12) (T := TX12) (N := 55) (fs := [.int 0, .null, .null, .null, .null, .null, .null, .int 0, .null, .int 0, .int 0, .int 0, .null, .null, .int 0, .int 0, .null, .null, .null, .int 0, .int 0, .int 0, .int 0, .int 0, .int 0, .int 0, .int 0, .null, .int 0, .int 0, .null, .null, .null, .null, .null, .int 0, .null, .null, .null, .null, .int 0, .null, .null, .null, .int 0, .int 0, .int 0, .int 0, .int 0, .int 0, .int 0, .null, .null, .int 0, .int 0]) dL_law_8 rfl cl_L_10 zq_i12 zq_n12 (fun G j hj => ?_) (by show 62 + 1 ≤ 600000; omega) (by show 9054 + 55 ≤ 7302250; omega) ?_
  · rcases (show j = 0 ∨ j = 1 ∨ j = 2 ∨ j = 3 ∨ j = 4 ∨ j = 5 ∨ j = 6 ∨ j = 7 ∨ j = 8 ∨ j = 9 ∨ j = 10 ∨ j = 11 ∨ j = 12 ∨ j = 13 ∨ j = 14 ∨ j = 15 ∨ j = 16 ∨ j = 17 ∨ j = 18 ∨ j = 19 ∨ j = 20 ∨ j = 21 ∨ j = 22 ∨ j = 23 ∨ j = 24 ∨ j = 25 ∨ j = 26 ∨ j = 27 ∨ j = 28 ∨ j = 29 ∨ j = 30 ∨ j = 31 ∨ j = 32 ∨ j = 33 ∨ j = 34 ∨ j = 35 ∨ j = 36 ∨ j = 37 ∨ j = 38 ∨ j = 39 ∨ j = 40 ∨ j = 41 ∨ j = 42 ∨ j = 43 ∨ j = 44 ∨ j = 45 ∨ j = 46 ∨ j = 47 ∨ j = 48 ∨ j = 49 ∨ j = 50 ∨ j = 51 ∨ j = 52 ∨ j = 53 ∨ j = 54 by omega) with rfl | rfl | rfl | rfl | rfl | rfl | rfl | rfl | rfl | rfl | rfl | rfl | rfl | rfl | rfl | rfl | rfl | rfl | rfl | rfl | rfl | rfl | rfl | rfl | rfl | rfl | rfl | rfl | rfl | rfl | rfl | rfl | rfl | rfl | rfl | rfl | rfl | rfl | rfl | rfl | rfl | rfl | rfl | rfl | rfl | rfl | rfl | rfl | rfl | rfl | rfl | rfl | rfl | rfl | rfl <;> rfl
  refine at_dup dL_law_11 rfl ?_
  refine at_callC (d := 88) [] dL_law_12 mc_L_12 rfl (Nat.le_of_ble_eq_true rfl) ⟨by decide, by decide, by show 63 + 27 ≤ 600000; omega, by show 9109 + 32202 ≤ 7302250; omega⟩ (zq_vo_ret zq_vo_12) ?_
  refine zc_i12 (by decide) (va_up_self _ _ _) ?_
  rw [zm_h70 rfl]
  show zq_At l G room_1 (mL nm) (zLQ G L xs) 15 [(0, .ref 0), (1, .ref 8)] [.ref 70] 90 (zl_h (zκ0 A1 A2 A3) (zm_h zσ1 zf00)) 90 41311
  refine at_astore_n dL_law_15 rfl (Nat.le_of_ble_eq_true rfl) ?_
  refine at_iconst dL_law_16 (v := nI 0) (by decide) ?_
  refine at_istore_n dL_law_17 rfl (Nat.le_of_ble_eq_true rfl) ?_
  exact zlw_loop hL 513 0 rfl 90 _ _ _ 90 41311 (zIV_0 h1) (by decide) (by decide)
end ZK41
/-- from the entry, for every script of at most 3072 ints, the law comes to its end with true -/
theorem whole_start {p : Program} {e : Env} {s : State} {m : MethodId} {below : List Frame} {meth : Method} {c : Code} (l : Launch) {b L : Nat} {xs : Nat → Int32} (hL : L ≤ 3072) (C0 : lw_At p s m meth c b L xs) : W p l e room_1 s m #[Value.ref b] below meth c s.heap [] 0 0 (lw_Z below #[Value.ref b] s) (entryFrame m ([Value.ref b] : List Value).toArray 4) := by
  obtain ⟨hx, hb, hr, hml, hown, hts, hX, hbl, hlocks, hgv⟩ := id C0
  obtain ⟨G, g1, g2, hK, hO⟩ := zq_start hts hgv
  have hl := lv_entry ([.ref b]) (n := 4) (Nat.le_of_ble_eq_true rfl)
  rw [lg_entry_eq]
  generalize (lg_sl ([.ref b]) ++ List.replicate (4 - (lg_sl ([.ref b])).length) Slot.unset).toArray = ls at hl ⊢
  have hl : lv_has ls 4 [(0, .ref b)] := hl
  have hl2 : lv_has ls 4 (([(0, .ref 0)] : List (Nat × Value)).map (fun q => (q.1, zq_v G q.2))) := by
    show lv_has ls 4 [(0, .ref (zq_ad G 0))]
    rw [zq_ad_o G (by decide), g2]
    exact hl
  have hc : zLSt G L xs #[Value.ref b] s := ⟨by rw [g2]; exact hX, by rw [g2]; exact hbl, by rw [g2], g1⟩
  have hP : va_P G.1 zq_cls (zq_W G 0 zf00) s.heap := fun k q h => by simp [zq_W] at h
  have hok : zq_ok 0 zf00 := ⟨fun k hk => if_pos hk, fun j hj => if_neg (by omega)⟩
  have hA := zlw_all (l := l) (G := G) (nm := meth.name) (xs := xs) hL p e s m #[Value.ref b] below meth c s.heap [] ls ⟨hx, hb, hml, hown, fun w hw => hts w (List.mem_filter.mp hw).1, hr, hlocks, rfl⟩ (by rw [g1]; exact Nat.le_refl _) hK hO (by rw [g1]; rfl) hok hP va_S.rf hl2
  intro T hT X
  obtain ⟨t, a1, b1⟩ := hA T hT X
  exact ⟨t, a1, b1 hc⟩
-- ===== YOUR PART ENDS =====
set_option maxHeartbeats 4000000 in
theorem lw_walk (l : Launch) (b : Addr) (xs : List Int32) : MetFree l x (headSpec (Jvm.Cond.code x code maxLocals ret :: tables_1) room_1) (lw_P b xs) (fun _ _ _ _ _ => True) lw_Q := by
  refine MetFree.of_bodyS (code := code) (maxLocals := maxLocals) (ret := ret) (by decide) ?_ ?_
  · intro args s m h hn
    obtain ⟨meth, c, h1, h2, h3, h4, h5, h6, -, -⟩ := Cond.code_spec hn (atoms_spec (ws := Jvm.Cond.code x code maxLocals ret :: tables_1) h _ List.mem_cons_self)
    exact ⟨meth, c, h1, h2, h3, h4, h5, h6⟩
  · intro p e s m args below meth c s₁ B hml0 hP _
    obtain ⟨rfl, hx, hbd, hgv⟩ := hP
    obtain ⟨scr, harrAt, hlist, hof, hsmall⟩ := hx
    obtain ⟨hcb, hkn, -, -⟩ := State.arrayAt?_spec harrAt
    have hown : s.vm.findClass R_law = some m.cls := findClass_of_methodNamed B.named
    have hts0 : ∀ c ∈ (Jvm.Cond.code x code maxLocals ret :: tables_1), c.before #[Value.ref b] s = true := atoms_spec (ws := Jvm.Cond.code x code maxLocals ret :: tables_1) B.pre
    have hts : ∀ w ∈ lw_tbl, w.before #[Value.ref b] s = true := k2_hts_sels lw_privs (fun w hw => hts0 w (List.mem_cons_of_mem _ hw)) lw_privs_ok
    have hml : c.maxLocals = 4 := B.maxLocals_eq (hts0 _ List.mem_cons_self)
    have X₀ : Stand p l e room_1 s m #[Value.ref b] below meth c s₁ [] 0 0 := Stand.of_body B
    have hh0 : s₁.heap = s.heap := by rw [B.state]; rfl
    have hsz : scr.slots.size = xs.length := by rw [← Array.length_toList, hlist, List.length_map]
    have hval : ∀ j : Nat, j < xs.length → scr.slots[j]? = some (.int (xs.getD j 0)) := fun j hj => by
      rw [← Array.getElem?_toList, hlist]
      simp [hj]
    have hbl : b < s.heap.size := (Array.getElem?_eq_some_iff.mp hcb).1
    have hX : va_X b xs.length (fun j => xs.getD j 0) s s.heap := ⟨scr, hcb, hof, hkn, hsz, hval⟩
    have K : W p l e room_1 s m #[Value.ref b] below meth c s₁.heap [] 0 0 (lw_Z below #[Value.ref b] s) (entryFrame m ([Value.ref b] : List Value).toArray 4) := by
      rw [hh0]
      exact whole_start l hbd ⟨B.exec, B.bytes, B.returns, hml, hown, hts, hX, hbl, B.notSynchronized, hgv⟩
    obtain ⟨t, a1, o, b1, b2, b3⟩ := K s₁ rfl X₀
    exact ⟨t, o, a1, b1, b2, b3⟩
theorem lw_pre_spec {args : Array Value} {s : State} (h : (Jvm.Cond.and given_1 narrow_1).before args s = true) (hr : rest_1_c.before args s = true) : ∃ (b : Addr) (xs : List Int32), lw_P b xs args s := by
  have hs := flat_of_before _ h
  have hq := flat_of_before _ hr
  have hc : (Cond.count 1).before args s = true := hs _ (by decide +kernel)
  have harr : (Cond.arrayOf (.arg 0) .int).before args s = true := hs _ (by decide +kernel)
  have hle : (Cond.le (.length (.arg 0)) (.int 3072)).before args s = true := hs _ (by decide +kernel)
  have hlen : (Cond.isInt (.length (.arg 0))).before args s = true := hq _ (by decide +kernel)
  have hall : (Cond.all (.arg 0) (.isInt (.elem (.arg 0) (.index 0)))).before args s = true := hq _ (by decide +kernel)
  obtain ⟨b, xs, hb, hx⟩ := State.ints_of_pre rfl harr hlen hall
  have hsm : xs.length < 2 ^ 31 := hx.choose_spec.2.2.2
  have hev : (Term.length (.arg 0)).eval args s none [] s = some (.int xs.length.toInt32) := hx.length_eval hb
  have hv := Cond.le_ints hev (show (Term.int 3072).eval args s none [] s = some (.int 3072) from rfl)
  have hd : xs.length.toInt32 ≤ 3072 := by
    simpa [Cond.before, Cond.holds, hv] using hle
  have hN : xs.length ≤ 3072 := (Int32.ofNat_le_ofNat hsm (by decide)).mp (show Int32.ofNat xs.length ≤ Int32.ofNat 3072 from hd)
  exact ⟨b, xs, Cond.one_arg hc (show args[0]? = some (.ref b) from hb), hx, hN, h⟩
theorem lw_comes (l : Launch) : Comes l x (Jvm.Cond.code x code maxLocals ret :: tables_1) room_1 (fun tb e args s => Calls_1 tb e args s ∧ rest_1 tb e args s ∧ Pre_1 tb e args s)
    (fun _ _ args s o t => lw_Q args s o t) := by
  intro p e ha hc hk s m args below hf hfit hheap happ hpre
  obtain ⟨b, xs, hP⟩ := lw_pre_spec hpre.2.2 hpre.2.1
  obtain ⟨k, o, h1, h2, h3, hQ⟩ := lw_walk l b xs p e ha hc hk s m args below hf ((Spec.applies_iff_loose hf).mp happ).1 hP trivial
  exact ⟨k, o, h1, h2, h3, hQ⟩
theorem lw_frame {s t : State} {o : Outcome} {args : Array Value} (h : Framed s o t [] 600000 7302250) :
    Framed s o t (fieldLocs frame_1_writes args s ++ arrayLocs frame_1_arrays args s ++ staticLocs frame_1_statics s) 600000 7302250 := h
theorem lw_limb (L : Cond) (hL : ∀ (args : Array Value) (s t : State), L.after args s (.returned (some (.int 1))) t = true) :
    ArmFor flags0 classFile x code maxLocals ret World_1 tables_1 room_1 Calls_1 rest_1 Pre_1
      (fun tb e a s o t => postC L tb e a s o t ∧ Framed s o t (fieldLocs frame_1_writes a s ++ arrayLocs frame_1_arrays a s ++ staticLocs frame_1_statics s) 600000 7302250) := by
  intro l _ _ _ p e ha hc hk s m args below hf hfit hheap happ hpre
  obtain ⟨k, o, h1, h2, h3, rfl, hF⟩ := lw_comes l p e ha hc hk s m args below hf hfit hheap happ hpre
  exact ⟨k, _, h1, h2, h3, hL args s _, lw_frame hF⟩
theorem i_vc : Claimed_1_1 ∧ Claimed_1_2 := ⟨lw_limb limb_1_1 (fun args s t => by simp [limb_1_1, Cond.after, Cond.holds, Cond.value]), lw_limb limb_1_2 (fun args s t => Cond.after_iff.mpr (by
  first | (rw [show limb_1_2 = Cond.eq .result (.int 1) from rfl, Cond.eq_ints (x := 1) (y := 1) rfl rfl]; simp; done) | (simp [limb_1_2, Cond.value, Term.eval]; done)))⟩

