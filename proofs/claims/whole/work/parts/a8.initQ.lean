/-! ===== LetterQuay is made (written by mkinit2.py) ===== -/
def zL61 (B : Nat) (A1 A2 A3 : Nat → Nat → Int32) : List zq_E := [.inr (7, zu_fs zqI0 (B + 1)), .inl (0, zu_len 1, .inl (A1 1)), .inl (0, zu_len 2, .inl (A1 2)), .inl (0, zu_len 3, .inl (A1 3)), .inl (0, zu_len 4, .inl (A1 4)), .inl (0, zu_len 5, .inl (A1 5)), .inl (0, zu_len 6, .inl (A1 6)), .inl (0, zu_len 7, .inl (A1 7)), .inl (0, zu_len 8, .inl (A1 8)), .inl (0, zu_len 9, .inl (A1 9)), .inl (6, 6, .inr (.inr (.inr (.inr (fun _ => none))))), .inl (5, 2, .inr (.inr (.inr (.inr (fun _ => none))))), .inr (7, zu_fs zqI0 (B + 13)), .inl (0, zu_len 1, .inl (A2 1)), .inl (0, zu_len 2, .inl (A2 2)), .inl (0, zu_len 3, .inl (A2 3)), .inl (0, zu_len 4, .inl (A2 4)), .inl (0, zu_len 5, .inl (A2 5)), .inl (0, zu_len 6, .inl (A2 6)), .inl (0, zu_len 7, .inl (A2 7)), .inl (0, zu_len 8, .inl (A2 8)), .inl (0, zu_len 9, .inl (A2 9)), .inl (6, 6, .inr (.inr (.inr (.inr (fun _ => none))))), .inr (7, zu_fs zqI0 (B + 24)), .inl (0, zu_len 1, .inl (A3 1)), .inl (0, zu_len 2, .inl (A3 2)), .inl (0, zu_len 3, .inl (A3 3)), .inl (0, zu_len 4, .inl (A3 4)), .inl (0, zu_len 5, .inl (A3 5)), .inl (0, zu_len 6, .inl (A3 6)), .inl (0, zu_len 7, .inl (A3 7)), .inl (0, zu_len 8, .inl (A3 8)), .inl (0, zu_len 9, .inl (A3 9)), .inl (6, 6, .inr (.inr (.inr (.inr (fun _ => none))))), .inr (4, [.int (nI 0), .ref (B + 36)]), .inl (0, 16, .inl (fun _ => 0)), .inr (4, [.int (nI 0), .ref (B + 38)]), .inl (0, 16, .inl (fun _ => 0)), .inl (0, 400, .inl (fun _ => 0)), .inr (8, [.ref (B + 41), .ref (B + 42), .int (nI 0), .int (nI 3000), .ref (B + 43), .int (nI 0), .int (nI 0), .int (-1), .int (nI 0)]), .inl (0, 401, .inl (fun _ => 0)), .inl (0, 401, .inl (fun _ => 0)), .inl (0, 800, .inl (fun _ => 0)), .inr (3, [.ref (B + 45), .ref (B + 47)]), .inr (9, [.ref (B + 46)]), .inl (0, 32, .inl (fun _ => 0)), .inl (0, 8, .inl (fun _ => 0)), .inr (0, [.ref (B + 49), .ref (B + 50), .int (nI 0), .ref (B + 51), .ref (B + 52)]), .inl (0, 6, .inl (upd (upd (upd (upd (upd (upd (fun _ => 0) 0 (-1)) 1 (nI 0)) 2 (nI 0)) 3 (nI 0)) 4 (nI 0)) 5 (nI 0))), .inl (0, 8, .inl (fun _ => 0)), .inl (0, 49, .inl (fun _ => 0)), .inl (0, 49, .inl (fun _ => 0)), .inr (5, [.ref (B + 54), .ref (B + 55)]), .inl (0, 6248, .inl (fun _ => 0)), .inl (0, 168, .inl (fun _ => 0)), .inr (2, [.ref (B + 57), .ref (B + 58), .ref (B + 59), .int (-1)]), .inl (0, 48, .inl (fun _ => 0)), .inl (0, 7, .inl (fun _ => 0)), .inl (0, 7, .inl (fun _ => 0)), .inl (0, 19, .inl (fun _ => 0)), .inl (0, 5, .inl (fun _ => 0))]
def zA0 (A : Nat → Nat → Int32) : Prop := ∀ c j, 1 ≤ c → c ≤ 9 → j < zu_len c → A c j = zqA0 c j
section ZK33
variable {l : Launch} {G : zq_G} {D n : Nat} {f : Nat → zq_E} {post : Option Value → Nat → (Nat → zq_E) → Prop}
set_option maxHeartbeats 8000000 in
theorem zc_i11 {B : Nat} (hD : 3 ≤ D) (hn : n + 8 = B + 1) (hB : f B = .inr (11, [.null, .null, .null, .null, .null, .null, .null, .int 0, .null, .null, .null, .null, .null, .null, .null, .int 0, .int 0, .int 0, .int 0]))
    (hp : ∀ A1 A2 A3, zA0 A1 → zA0 A2 → zA0 A3 → post none (n + 61) (zqL f 11 B [.ref (B + 1), .ref (B + 12), .ref (B + 13), .ref (B + 24), .ref (B + 35), .ref (B + 37), .ref (B + 39), .int (nI 0), .ref (B + 40), .ref (B + 44), .ref (B + 48), .ref (B + 53), .ref (B + 56), .ref (B + 60), .ref (B + 61), .int (-1), .int (-1), .int (nI 0), .int (nI 0)] (zL61 B A1 A2 A3))) : zq_Runs l G D 61 9035 yX11_init [.ref B] n f post := by
  rw [← zqL_0 hB]
  refine zq_enter (cc := cX11_init) (nL := 1) (ret := none) cw_X11_init (by decide) rfl (Nat.le_of_ble_eq_true rfl) ?_
  refine at_aload_n dX11_init_0 rfl ?_
  refine at_objInit dX11_init_1 oi_X11_3 zq_oi zq_oc (Nat.le_of_ble_eq_true rfl) ⟨by show 1 ≤ D; omega, by show 20 ≤ 60 * D; omega⟩ ?_
  refine at_aload_n dX11_init_4 rfl ?_
  refine at_new (ci := 7) (T := TX7) (N := 14) (fs := [.int 0, .null, .null, .null, .null, .null, .null, .null, .int 0, .null, .null, .int 0, .null, .int 0]) dX11_init_5 rfl cl_X11_9 zq_i7 zq_n7 (fun G j hj => ?_) (by show 0 + 1 ≤ 61; omega) (by show 0 + 14 ≤ 9035; omega) ?_
  · rcases (show j = 0 ∨ j = 1 ∨ j = 2 ∨ j = 3 ∨ j = 4 ∨ j = 5 ∨ j = 6 ∨ j = 7 ∨ j = 8 ∨ j = 9 ∨ j = 10 ∨ j = 11 ∨ j = 12 ∨ j = 13 by omega) with rfl | rfl | rfl | rfl | rfl | rfl | rfl | rfl | rfl | rfl | rfl | rfl | rfl | rfl <;> rfl
  rw [zqL_n (show n + 8 = B + 0 + 1 by omega)]
  rw [show n + 8 = B + 1 by omega]
  refine at_dup dX11_init_8 rfl ?_
  refine at_callC (d := D - 1) [] dX11_init_9 mc_X11_11 rfl (Nat.le_of_ble_eq_true rfl) ⟨by show D - 1 + 1 ≤ D; omega, by show 60 * (D - 1) + 59 ≤ 60 * D; omega, by show 1 + 10 ≤ 61; omega, by show 14 + 92 ≤ 9035; omega⟩ (zq_vo_ret zq_vo_7) ?_
  refine zc_quayInit (B := B + 1) (by omega) (by show n + 1 + 8 = B + 1 + 1; omega) (zqL_c (by rfl)) (fun A1 hA1 => ?_)
  rw [zqL_q (show B + 1 = B + 0 + 1 from rfl)]
  rw [show n + 1 + 1 + 1 + 1 + 1 + 1 + 1 + 1 + 1 + 1 + 1 = n + 11 from rfl]
  refine at_put dX11_init_12 pl_X11_12 zqL_o (Nat.le_of_ble_eq_true rfl) (fun _ => rfl) (fun _ => rfl) ?_
  rw [zqL_p]
  refine at_aload_n dX11_init_15 rfl ?_
  refine at_iconst dX11_init_16 (v := nI 2) (by decide) ?_
  refine at_anew (t := 5) (N := 2) dX11_init_17 (fun _ => rfl) (fun G s h => h.2.2.2.2.2.2.2.2.2.2.1) cl_X11_9 (by decide) (by decide) (by decide) (by show 11 + 1 ≤ 61; omega) (by show 106 + 2 ≤ 9035; omega) ?_
  rw [zqL_n (show n + 11 + 8 = B + 11 + 1 by omega), show n + 11 + 8 = B + 12 by omega]
  rw [show n + 11 + 1 = n + 12 from rfl]
  refine at_put dX11_init_20 pl_X11_16 zqL_o (Nat.le_of_ble_eq_true rfl) (fun _ => rfl) (fun _ => rfl) ?_
  rw [zqL_p]
  refine at_aload_n dX11_init_23 rfl ?_
  refine at_new (ci := 7) (T := TX7) (N := 14) (fs := [.int 0, .null, .null, .null, .null, .null, .null, .null, .int 0, .null, .null, .int 0, .null, .int 0]) dX11_init_24 rfl cl_X11_9 zq_i7 zq_n7 (fun G j hj => ?_) (by show 12 + 1 ≤ 61; omega) (by show 108 + 14 ≤ 9035; omega) ?_
  · rcases (show j = 0 ∨ j = 1 ∨ j = 2 ∨ j = 3 ∨ j = 4 ∨ j = 5 ∨ j = 6 ∨ j = 7 ∨ j = 8 ∨ j = 9 ∨ j = 10 ∨ j = 11 ∨ j = 12 ∨ j = 13 by omega) with rfl | rfl | rfl | rfl | rfl | rfl | rfl | rfl | rfl | rfl | rfl | rfl | rfl | rfl <;> rfl
  rw [zqL_n (show n + 12 + 8 = B + 12 + 1 by omega)]
  rw [show n + 12 + 8 = B + 13 by omega]
  rw [show n + 12 + 1 = n + 13 from rfl]
  refine at_dup dX11_init_27 rfl ?_
  refine at_callC (d := D - 1) [] dX11_init_28 mc_X11_11 rfl (Nat.le_of_ble_eq_true rfl) ⟨by show D - 1 + 1 ≤ D; omega, by show 60 * (D - 1) + 59 ≤ 60 * D; omega, by show 13 + 10 ≤ 61; omega, by show 122 + 92 ≤ 9035; omega⟩ (zq_vo_ret zq_vo_7) ?_
  refine zc_quayInit (B := B + 13) (by omega) (by show n + 13 + 8 = B + 13 + 1; omega) (zqL_c (by rfl)) (fun A13 hA13 => ?_)
  rw [zqL_q (show B + 13 = B + 12 + 1 from rfl)]
  rw [show n + 13 + 1 + 1 + 1 + 1 + 1 + 1 + 1 + 1 + 1 + 1 = n + 23 from rfl]
  refine at_put dX11_init_31 pl_X11_20 zqL_o (Nat.le_of_ble_eq_true rfl) (fun _ => rfl) (fun _ => rfl) ?_
  rw [zqL_p]
  refine at_aload_n dX11_init_34 rfl ?_
  refine at_new (ci := 7) (T := TX7) (N := 14) (fs := [.int 0, .null, .null, .null, .null, .null, .null, .null, .int 0, .null, .null, .int 0, .null, .int 0]) dX11_init_35 rfl cl_X11_9 zq_i7 zq_n7 (fun G j hj => ?_) (by show 23 + 1 ≤ 61; omega) (by show 214 + 14 ≤ 9035; omega) ?_
  · rcases (show j = 0 ∨ j = 1 ∨ j = 2 ∨ j = 3 ∨ j = 4 ∨ j = 5 ∨ j = 6 ∨ j = 7 ∨ j = 8 ∨ j = 9 ∨ j = 10 ∨ j = 11 ∨ j = 12 ∨ j = 13 by omega) with rfl | rfl | rfl | rfl | rfl | rfl | rfl | rfl | rfl | rfl | rfl | rfl | rfl | rfl <;> rfl
  rw [zqL_n (show n + 23 + 8 = B + 23 + 1 by omega)]
  rw [show n + 23 + 8 = B + 24 by omega]
  rw [show n + 23 + 1 = n + 24 from rfl]
  refine at_dup dX11_init_38 rfl ?_
  refine at_callC (d := D - 1) [] dX11_init_39 mc_X11_11 rfl (Nat.le_of_ble_eq_true rfl) ⟨by show D - 1 + 1 ≤ D; omega, by show 60 * (D - 1) + 59 ≤ 60 * D; omega, by show 24 + 10 ≤ 61; omega, by show 228 + 92 ≤ 9035; omega⟩ (zq_vo_ret zq_vo_7) ?_
  refine zc_quayInit (B := B + 24) (by omega) (by show n + 24 + 8 = B + 24 + 1; omega) (zqL_c (by rfl)) (fun A24 hA24 => ?_)
  rw [zqL_q (show B + 24 = B + 23 + 1 from rfl)]
  rw [show n + 24 + 1 + 1 + 1 + 1 + 1 + 1 + 1 + 1 + 1 + 1 = n + 34 from rfl]
  refine at_put dX11_init_42 pl_X11_23 zqL_o (Nat.le_of_ble_eq_true rfl) (fun _ => rfl) (fun _ => rfl) ?_
  rw [zqL_p]
  refine at_aload_n dX11_init_45 rfl ?_
  refine at_new (ci := 4) (T := TX4) (N := 2) (fs := [.int 0, .null]) dX11_init_46 rfl cl_X11_26 zq_i4 zq_n4 (fun G j hj => ?_) (by show 34 + 1 ≤ 61; omega) (by show 320 + 2 ≤ 9035; omega) ?_
  · rcases (show j = 0 ∨ j = 1 by omega) with rfl | rfl <;> rfl
  rw [zqL_n (show n + 34 + 8 = B + 34 + 1 by omega)]
  rw [show n + 34 + 8 = B + 35 by omega]
  rw [show n + 34 + 1 = n + 35 from rfl]
  refine at_dup dX11_init_49 rfl ?_
  refine at_callC (d := D - 1) [] dX11_init_50 mc_X11_28 rfl (Nat.le_of_ble_eq_true rfl) ⟨by show D - 1 + 1 ≤ D; omega, by show 60 * (D - 1) + 59 ≤ 60 * D; omega, by show 35 + 1 ≤ 61; omega, by show 322 + 16 ≤ 9035; omega⟩ (zq_vo_ret zq_vo_4) ?_
  refine zc_i4 (B := B + 35) (by omega) (by show n + 35 + 8 = B + 35 + 1; omega) (zqL_c (by rfl)) ?_
  rw [zqL_s (show B + 35 = B + 34 + 1 from rfl)]
  rw [show n + 35 + 1 = n + 36 from rfl]
  refine at_put dX11_init_53 pl_X11_29 zqL_o (Nat.le_of_ble_eq_true rfl) (fun _ => rfl) (fun _ => rfl) ?_
  rw [zqL_p]
  refine at_aload_n dX11_init_56 rfl ?_
  refine at_new (ci := 4) (T := TX4) (N := 2) (fs := [.int 0, .null]) dX11_init_57 rfl cl_X11_26 zq_i4 zq_n4 (fun G j hj => ?_) (by show 36 + 1 ≤ 61; omega) (by show 338 + 2 ≤ 9035; omega) ?_
  · rcases (show j = 0 ∨ j = 1 by omega) with rfl | rfl <;> rfl
  rw [zqL_n (show n + 36 + 8 = B + 36 + 1 by omega)]
  rw [show n + 36 + 8 = B + 37 by omega]
  rw [show n + 36 + 1 = n + 37 from rfl]
  refine at_dup dX11_init_60 rfl ?_
  refine at_callC (d := D - 1) [] dX11_init_61 mc_X11_28 rfl (Nat.le_of_ble_eq_true rfl) ⟨by show D - 1 + 1 ≤ D; omega, by show 60 * (D - 1) + 59 ≤ 60 * D; omega, by show 37 + 1 ≤ 61; omega, by show 340 + 16 ≤ 9035; omega⟩ (zq_vo_ret zq_vo_4) ?_
  refine zc_i4 (B := B + 37) (by omega) (by show n + 37 + 8 = B + 37 + 1; omega) (zqL_c (by rfl)) ?_
  rw [zqL_s (show B + 37 = B + 36 + 1 from rfl)]
  rw [show n + 37 + 1 = n + 38 from rfl]
  refine at_put dX11_init_64 pl_X11_33 zqL_o (Nat.le_of_ble_eq_true rfl) (fun _ => rfl) (fun _ => rfl) ?_
  rw [zqL_p]
  refine at_aload_n dX11_init_67 rfl ?_
  refine at_sipush dX11_init_68 (v := nI 400) (by decide) ?_
  refine at_newa (t := 0) (N := 400) (by decide) dX11_init_71 zq_ai (by decide) (by decide) (by decide) (by show 38 + 1 ≤ 61; omega) (by show 356 + 400 ≤ 9035; omega) ?_
  rw [zqL_n (show n + 38 + 8 = B + 38 + 1 by omega), show n + 38 + 8 = B + 39 by omega]
  rw [show n + 38 + 1 = n + 39 from rfl]
  refine at_put dX11_init_73 pl_X11_36 zqL_o (Nat.le_of_ble_eq_true rfl) (fun _ => rfl) (fun _ => rfl) ?_
  rw [zqL_p]
  refine at_aload_n dX11_init_76 rfl ?_
  refine at_iconst dX11_init_77 (v := nI 0) (by decide) ?_
  refine at_put dX11_init_78 (pl_X11_40 _) zqL_o (Nat.le_of_ble_eq_true rfl) (fun _ => rfl) (fun _ => rfl) ?_
  rw [zqL_p]
  refine at_aload_n dX11_init_81 rfl ?_
  refine at_new (ci := 8) (T := TX8) (N := 9) (fs := [.null, .null, .int 0, .int 0, .null, .int 0, .int 0, .int 0, .int 0]) dX11_init_82 rfl cl_X11_44 zq_i8 zq_n8 (fun G j hj => ?_) (by show 39 + 1 ≤ 61; omega) (by show 756 + 9 ≤ 9035; omega) ?_
  · rcases (show j = 0 ∨ j = 1 ∨ j = 2 ∨ j = 3 ∨ j = 4 ∨ j = 5 ∨ j = 6 ∨ j = 7 ∨ j = 8 by omega) with rfl | rfl | rfl | rfl | rfl | rfl | rfl | rfl | rfl <;> rfl
  rw [zqL_n (show n + 39 + 8 = B + 39 + 1 by omega)]
  rw [show n + 39 + 8 = B + 40 by omega]
  rw [show n + 39 + 1 = n + 40 from rfl]
  refine at_dup dX11_init_85 rfl ?_
  refine at_callC (d := D - 1) [] dX11_init_86 mc_X11_46 rfl (Nat.le_of_ble_eq_true rfl) ⟨by show D - 1 + 1 ≤ D; omega, by show 60 * (D - 1) + 59 ≤ 60 * D; omega, by show 40 + 3 ≤ 61; omega, by show 765 + 1602 ≤ 9035; omega⟩ (zq_vo_ret zq_vo_8) ?_
  refine zc_i8 (B := B + 40) (by omega) (by show n + 40 + 8 = B + 40 + 1; omega) (zqL_c (by rfl)) ?_
  rw [zqL_s (show B + 40 = B + 39 + 1 from rfl)]
  rw [show n + 40 + 1 + 1 + 1 = n + 43 from rfl]
  refine at_put dX11_init_89 pl_X11_47 zqL_o (Nat.le_of_ble_eq_true rfl) (fun _ => rfl) (fun _ => rfl) ?_
  rw [zqL_p]
  refine at_aload_n dX11_init_92 rfl ?_
  refine at_new (ci := 3) (T := TX3) (N := 2) (fs := [.null, .null]) dX11_init_93 rfl cl_X11_51 zq_i3 zq_n3 (fun G j hj => ?_) (by show 43 + 1 ≤ 61; omega) (by show 2367 + 2 ≤ 9035; omega) ?_
  · rcases (show j = 0 ∨ j = 1 by omega) with rfl | rfl <;> rfl
  rw [zqL_n (show n + 43 + 8 = B + 43 + 1 by omega)]
  rw [show n + 43 + 8 = B + 44 by omega]
  rw [show n + 43 + 1 = n + 44 from rfl]
  refine at_dup dX11_init_96 rfl ?_
  refine at_callC (d := D - 1) [] dX11_init_97 mc_X11_53 rfl (Nat.le_of_ble_eq_true rfl) ⟨by show D - 1 + 1 ≤ D; omega, by show 60 * (D - 1) + 59 ≤ 60 * D; omega, by show 44 + 3 ≤ 61; omega, by show 2369 + 41 ≤ 9035; omega⟩ (zq_vo_ret zq_vo_3) ?_
  refine zc_i3 (B := B + 44) (by omega) (by show n + 44 + 8 = B + 44 + 1; omega) (zqL_c (by rfl)) ?_
  rw [zqL_s (show B + 44 = B + 43 + 1 from rfl)]
  rw [show n + 44 + 1 + 1 + 1 = n + 47 from rfl]
  refine at_put dX11_init_100 pl_X11_54 zqL_o (Nat.le_of_ble_eq_true rfl) (fun _ => rfl) (fun _ => rfl) ?_
  rw [zqL_p]
  refine at_aload_n dX11_init_103 rfl ?_
  refine at_new (ci := 0) (T := TX0) (N := 5) (fs := [.null, .null, .int 0, .null, .null]) dX11_init_104 rfl cl_X11_58 zq_i0 zq_n0 (fun G j hj => ?_) (by show 47 + 1 ≤ 61; omega) (by show 2410 + 5 ≤ 9035; omega) ?_
  · rcases (show j = 0 ∨ j = 1 ∨ j = 2 ∨ j = 3 ∨ j = 4 by omega) with rfl | rfl | rfl | rfl | rfl <;> rfl
  rw [zqL_n (show n + 47 + 8 = B + 47 + 1 by omega)]
  rw [show n + 47 + 8 = B + 48 by omega]
  rw [show n + 47 + 1 = n + 48 from rfl]
  refine at_dup dX11_init_107 rfl ?_
  refine at_callC (d := D - 1) [] dX11_init_108 mc_X11_60 rfl (Nat.le_of_ble_eq_true rfl) ⟨by show D - 1 + 1 ≤ D; omega, by show 60 * (D - 1) + 59 ≤ 60 * D; omega, by show 48 + 4 ≤ 61; omega, by show 2415 + 112 ≤ 9035; omega⟩ (zq_vo_ret zq_vo_0) ?_
  refine zc_i0 (B := B + 48) (by omega) (by show n + 48 + 8 = B + 48 + 1; omega) (zqL_c (by rfl)) ?_
  rw [zqL_s (show B + 48 = B + 47 + 1 from rfl)]
  rw [show n + 48 + 1 + 1 + 1 + 1 = n + 52 from rfl]
  refine at_put dX11_init_111 pl_X11_61 zqL_o (Nat.le_of_ble_eq_true rfl) (fun _ => rfl) (fun _ => rfl) ?_
  rw [zqL_p]
  refine at_aload_n dX11_init_114 rfl ?_
  refine at_new (ci := 5) (T := TX5) (N := 2) (fs := [.null, .null]) dX11_init_115 rfl cl_X11_65 zq_i5 zq_n5 (fun G j hj => ?_) (by show 52 + 1 ≤ 61; omega) (by show 2527 + 2 ≤ 9035; omega) ?_
  · rcases (show j = 0 ∨ j = 1 by omega) with rfl | rfl <;> rfl
  rw [zqL_n (show n + 52 + 8 = B + 52 + 1 by omega)]
  rw [show n + 52 + 8 = B + 53 by omega]
  rw [show n + 52 + 1 = n + 53 from rfl]
  refine at_dup dX11_init_118 rfl ?_
  refine at_callC (d := D - 1) [] dX11_init_119 mc_X11_67 rfl (Nat.le_of_ble_eq_true rfl) ⟨by show D - 1 + 1 ≤ D; omega, by show 60 * (D - 1) + 59 ≤ 60 * D; omega, by show 53 + 2 ≤ 61; omega, by show 2529 + 6416 ≤ 9035; omega⟩ (zq_vo_ret zq_vo_5) ?_
  refine zc_i5 (B := B + 53) (by omega) (by show n + 53 + 8 = B + 53 + 1; omega) (zqL_c (by rfl)) ?_
  rw [zqL_s (show B + 53 = B + 52 + 1 from rfl)]
  rw [show n + 53 + 1 + 1 = n + 55 from rfl]
  refine at_put dX11_init_122 pl_X11_68 zqL_o (Nat.le_of_ble_eq_true rfl) (fun _ => rfl) (fun _ => rfl) ?_
  rw [zqL_p]
  refine at_aload_n dX11_init_125 rfl ?_
  refine at_new (ci := 2) (T := TX2) (N := 4) (fs := [.null, .null, .null, .int 0]) dX11_init_126 rfl cl_X11_72 zq_i2 zq_n2 (fun G j hj => ?_) (by show 55 + 1 ≤ 61; omega) (by show 8945 + 4 ≤ 9035; omega) ?_
  · rcases (show j = 0 ∨ j = 1 ∨ j = 2 ∨ j = 3 by omega) with rfl | rfl | rfl | rfl <;> rfl
  rw [zqL_n (show n + 55 + 8 = B + 55 + 1 by omega)]
  rw [show n + 55 + 8 = B + 56 by omega]
  rw [show n + 55 + 1 = n + 56 from rfl]
  refine at_dup dX11_init_129 rfl ?_
  refine at_callC (d := D - 1) [] dX11_init_130 mc_X11_74 rfl (Nat.le_of_ble_eq_true rfl) ⟨by show D - 1 + 1 ≤ D; omega, by show 60 * (D - 1) + 59 ≤ 60 * D; omega, by show 56 + 3 ≤ 61; omega, by show 8949 + 62 ≤ 9035; omega⟩ (zq_vo_ret zq_vo_2) ?_
  refine zc_i2 (B := B + 56) (by omega) (by show n + 56 + 8 = B + 56 + 1; omega) (zqL_c (by rfl)) ?_
  rw [zqL_s (show B + 56 = B + 55 + 1 from rfl)]
  rw [show n + 56 + 1 + 1 + 1 = n + 59 from rfl]
  refine at_put dX11_init_133 pl_X11_75 zqL_o (Nat.le_of_ble_eq_true rfl) (fun _ => rfl) (fun _ => rfl) ?_
  rw [zqL_p]
  refine at_aload_n dX11_init_136 rfl ?_
  refine at_bipush dX11_init_137 (v := nI 19) (by decide) ?_
  refine at_newa (t := 0) (N := 19) (by decide) dX11_init_139 zq_ai (by decide) (by decide) (by decide) (by show 59 + 1 ≤ 61; omega) (by show 9011 + 19 ≤ 9035; omega) ?_
  rw [zqL_n (show n + 59 + 8 = B + 59 + 1 by omega), show n + 59 + 8 = B + 60 by omega]
  rw [show n + 59 + 1 = n + 60 from rfl]
  refine at_put dX11_init_141 pl_X11_79 zqL_o (Nat.le_of_ble_eq_true rfl) (fun _ => rfl) (fun _ => rfl) ?_
  rw [zqL_p]
  refine at_aload_n dX11_init_144 rfl ?_
  refine at_iconst dX11_init_145 (v := nI 5) (by decide) ?_
  refine at_newa (t := 0) (N := 5) (by decide) dX11_init_146 zq_ai (by decide) (by decide) (by decide) (by show 60 + 1 ≤ 61; omega) (by show 9030 + 5 ≤ 9035; omega) ?_
  rw [zqL_n (show n + 60 + 8 = B + 60 + 1 by omega), show n + 60 + 8 = B + 61 by omega]
  rw [show n + 60 + 1 = n + 61 from rfl]
  refine at_put dX11_init_148 pl_X11_82 zqL_o (Nat.le_of_ble_eq_true rfl) (fun _ => rfl) (fun _ => rfl) ?_
  rw [zqL_p]
  refine at_aload_n dX11_init_151 rfl ?_
  refine at_iconst dX11_init_152 (v := -1) rfl ?_
  refine at_put dX11_init_153 (pl_X11_85 _) zqL_o (Nat.le_of_ble_eq_true rfl) (fun _ => rfl) (fun _ => rfl) ?_
  rw [zqL_p]
  refine at_aload_n dX11_init_156 rfl ?_
  refine at_iconst dX11_init_157 (v := -1) rfl ?_
  refine at_put dX11_init_158 (pl_X11_88 _) zqL_o (Nat.le_of_ble_eq_true rfl) (fun _ => rfl) (fun _ => rfl) ?_
  rw [zqL_p]
  refine at_aload_n dX11_init_161 rfl ?_
  refine at_iconst dX11_init_162 (v := nI 0) (by decide) ?_
  refine at_put dX11_init_163 (pl_X11_91 _) zqL_o (Nat.le_of_ble_eq_true rfl) (fun _ => rfl) (fun _ => rfl) ?_
  rw [zqL_p]
  refine at_aload_n dX11_init_166 rfl ?_
  refine at_iconst dX11_init_167 (v := nI 0) (by decide) ?_
  refine at_put dX11_init_168 (pl_X11_94 _) zqL_o (Nat.le_of_ble_eq_true rfl) (fun _ => rfl) (fun _ => rfl) ?_
  rw [zqL_p]
  refine at_vret dX11_init_171 rfl (by show 61 ≤ 61; omega) (by show 9035 ≤ 9035; omega) ?_
  exact hp A1 A13 A24 hA1 hA13 hA24
end ZK33

