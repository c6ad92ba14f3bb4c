/-! ===== the Model is made: its numbers (written by mkinit4.py) ===== -/
def zi00 (k : Nat) : Int32 := if k = 15 then -1 else if k = 45 then -1 else if k = 53 then -1 else 0
def zA00 (a : Nat) : Nat → Int32 := if a = 77 then zwB 143 else fun _ => 0
def zσ0 : zm_S := (zi00, zA00, fun _ _ => 0)
section ZK36
variable {l : Launch} {G : zq_G} {D n : Nat} {f : Nat → zq_E} {post : Option Value → Nat → (Nat → zq_E) → Prop}
theorem zL27_h : zqL f 12 70 (zF55 70) zL27 = zm_h zσ0 f := by
  funext k
  rcases (show k < 70 ∨ 98 ≤ k ∨ (70 ≤ k ∧ k < 98) by omega) with h | h | h
  · rw [zqL_x (Or.inl h), zm_hx _ _ (Or.inl h)]
  · rw [zqL_x (Or.inr (show 70 + 27 < k by omega)), zm_hx _ _ (Or.inr h)]
  · obtain ⟨j, rfl⟩ : ∃ j, k = 70 + j := ⟨k - 70, by omega⟩
    have hj : j < 28 := by omega
    match j, hj with
    | 0, _ => rfl
    | 1, _ => rfl
    | 2, _ => rfl
    | 3, _ => rfl
    | 4, _ => rfl
    | 5, _ => rfl
    | 6, _ => rfl
    | 7, _ => rfl
    | 8, _ => rfl
    | 9, _ => rfl
    | 10, _ => rfl
    | 11, _ => rfl
    | 12, _ => rfl
    | 13, _ => rfl
    | 14, _ => rfl
    | 15, _ => rfl
    | 16, _ => rfl
    | 17, _ => rfl
    | 18, _ => rfl
    | 19, _ => rfl
    | 20, _ => rfl
    | 21, _ => rfl
    | 22, _ => rfl
    | 23, _ => rfl
    | 24, _ => rfl
    | 25, _ => rfl
    | 26, _ => rfl
    | 27, _ => rfl
    | j + 28, hj => exact absurd hj (by omega)
theorem zc_i12_s {i : Nat} {σ : zm_S} (hi : i < 5) (kk : zq_At l G (zq_rm D 27 32202) mX12_init (zq_QF G post 27 32202) 1128 [(0, .ref 70), (1, .int (nI (i + 1)))] [] 90 (zm_h (zm_sa σ 72 (14 + i) (nI (i + 1))) f) 27 32202) : zq_At l G (zq_rm D 27 32202) mX12_init (zq_QF G post 27 32202) 1128 [(0, .ref 70), (1, .int (nI i))] [] 90 (zm_h σ f) 27 32202 := by
  refine at_iload_n dX12_init_1128 rfl ?_
  refine at_iconst dX12_init_1129 (v := nI 5) (by decide) ?_
  refine at_geN (tgt := 1151) dX12_init_1130 (by decide) (by omega) (by omega) (fun c1130 => ?_) (fun c1130 => ?_)
  · omega
  · refine at_aload_n dX12_init_1133 rfl ?_
    refine at_get dX12_init_1134 fl_X12_42 rfl rfl ?_
    refine at_bipush dX12_init_1137 (v := nI 14) (by decide) ?_
    refine at_iload_n dX12_init_1139 rfl ?_
    refine at_iaddN dX12_init_1140 ?_
    refine at_iload_n dX12_init_1141 rfl ?_
    refine at_iconst dX12_init_1142 (v := nI 1) (by decide) ?_
    refine at_iaddN dX12_init_1143 ?_
    refine at_mast (a := 72) dX12_init_1144 (by decide) (by decide) (by decide) (by decide) rfl rfl (by show _ < 5684; omega) (by decide) ?_
    refine at_iincN dX12_init_1145 rfl (by decide) ?_
    refine at_goto (tgt := 1128) dX12_init_1148 (by decide) ?_
    exact kk
theorem zc_i12_e {σ : zm_S} (hD : 3 ≤ D) (hal : ∀ k, k < 5 → σ.2.1 72 (14 + k) = nI (k + 1) ∧ k + 1 < 6) (hp : post none 90 (zm_h (zsR σ (zrk (σ.2.1 76) (fun k => k + 1) 5)) f)) : zq_At l G (zq_rm D 27 32202) mX12_init (zq_QF G post 27 32202) 1128 [(0, .ref 70), (1, .int (nI 5))] [] 90 (zm_h σ f) 27 32202 := by
  refine at_iload_n dX12_init_1128 rfl ?_
  refine at_iconst dX12_init_1129 (v := nI 5) (by decide) ?_
  refine at_geN (tgt := 1151) dX12_init_1130 (by decide) (by omega) (by omega) (fun c1130 => ?_) (fun c1130 => ?_)
  · refine at_aload_n dX12_init_1151 rfl ?_
    refine at_callV0 (d := D - 1) dX12_init_1152 mv_X12_132 rfl (Nat.le_of_ble_eq_true rfl) (zq_r0 (by omega) (by omega) (by omega)) ?_
    refine zm_laysRank (al := fun k => k + 1) hal ?_
    refine at_vret dX12_init_1155 rfl (by omega) (by omega) ?_
    exact hp
  · omega
def zτ0 : zm_S := (zm_sa (zm_sa (zm_sa (zm_sa (zm_sa (zm_sa (zm_sa zσ0 72 71 (nI 1)) 72 76 (-1)) 72 (14 + 0) (nI (0 + 1))) 72 (14 + 1) (nI (1 + 1))) 72 (14 + 2) (nI (2 + 1))) 72 (14 + 3) (nI (3 + 1))) 72 (14 + 4) (nI (4 + 1)))
def zσ1 : zm_S := zsR zτ0 (zrk (zτ0.2.1 76) (fun k => k + 1) 5)
theorem zτ0_al : ∀ k, k < 5 → zτ0.2.1 72 (14 + k) = nI (k + 1) ∧ k + 1 < 6 := by
  intro k hk
  match k, hk with
  | 0, _ => exact ⟨rfl, by decide⟩
  | 1, _ => exact ⟨rfl, by decide⟩
  | 2, _ => exact ⟨rfl, by decide⟩
  | 3, _ => exact ⟨rfl, by decide⟩
  | 4, _ => exact ⟨rfl, by decide⟩
  | k + 5, hk => exact absurd hk (by omega)
theorem zc_i12 (hD : 3 ≤ D) (hB : f 70 = .inr (12, [.int 0, .null, .null, .null, .null, .null, .null, .int 0, .null, .int 0, .int 0, .int 0, .null, .null, .int 0, .int 0, .null, .null, .null, .int 0, .int 0, .int 0, .int 0, .int 0, .int 0, .int 0, .int 0, .null, .int 0, .int 0, .null, .null, .null, .null, .null, .int 0, .null, .null, .null, .null, .int 0, .null, .null, .null, .int 0, .int 0, .int 0, .int 0, .int 0, .int 0, .int 0, .null, .null, .int 0, .int 0])) (hp : post none 90 (zm_h zσ1 f)) : zq_Runs l G D 27 32202 yX12_init [.ref 70] 63 f post := by
  refine zc_i12a (B := 70) (n := 63) hD rfl hB ?_
  rw [zL27_h]
  show zq_At l G (zq_rm D 27 32202) mX12_init (zq_QF G post 27 32202) 1110 [(0, .ref 70)] [] 90 (zm_h zσ0 f) 27 32202
  refine at_aload_n dX12_init_1110 rfl ?_
  refine at_get dX12_init_1111 fl_X12_42 rfl rfl ?_
  refine at_bipush dX12_init_1114 (v := nI 71) (by decide) ?_
  refine at_iconst dX12_init_1116 (v := nI 1) (by decide) ?_
  refine at_mast (a := 72) dX12_init_1117 (by decide) (by decide) (by decide) (by decide) rfl rfl (by show _ < 5684; omega) (by decide) ?_
  refine at_aload_n dX12_init_1118 rfl ?_
  refine at_get dX12_init_1119 fl_X12_42 rfl rfl ?_
  refine at_bipush dX12_init_1122 (v := nI 76) (by decide) ?_
  refine at_iconst dX12_init_1124 (v := -1) rfl ?_
  refine at_mast (a := 72) dX12_init_1125 (by decide) (by decide) (by decide) (by decide) rfl rfl (by show _ < 5684; omega) (by decide) ?_
  refine at_iconst dX12_init_1126 (v := nI 0) (by decide) ?_
  refine at_istore_n dX12_init_1127 rfl (by decide) ?_
  exact zc_i12_s (by decide) (zc_i12_s (by decide) (zc_i12_s (by decide) (zc_i12_s (by decide) (zc_i12_s (by decide) (zc_i12_e hD zτ0_al hp)))))
end ZK36

