/-! ===== what the entries of the constant pools name, by program ===== -/
theorem oi_X11_3 : Cond.methodLink RX11 3 Lib.objectInit ∈ zq_ws := zq_in (zq_t1 (List.mem_of_getElem? (i := 27) rfl)) rfl
theorem cl_X11_9 : Cond.classLink RX11 9 RX7 ∈ zq_ws := zq_in (zq_t1 (List.mem_of_getElem? (i := 30) rfl)) rfl
theorem mi_X7_init : zq_MI yX7_init 0 := ⟨zq_in (zq_t1 (List.mem_of_getElem? (i := 2) rfl)) rfl, ⟨by decide, by decide⟩, by decide +kernel⟩
theorem cw_X7_init : Cond.code yX7_init cX7_init 1 none ∈ zq_ws := zq_in (zq_t1 (List.mem_of_getElem? (i := 34) rfl)) rfl
theorem mc_X11_11 : zq_MC RX11 11 yX7_init 0 := ⟨Or.inr (by decide +kernel), rfl, zq_in (zq_t1 (List.mem_of_getElem? (i := 33) rfl)) rfl, mi_X7_init⟩
theorem fl_X11_12 : zq_FL RX11 12 11 0 := ⟨_, _, _, rfl, by decide, zq_in (zq_t1 (List.mem_of_getElem? (i := 229) rfl)) rfl⟩
theorem pl_X11_12 : zq_PL RX11 "<init>" 12 11 0 := ⟨_, _, _, rfl, by decide, zq_in (zq_t1 (List.mem_of_getElem? (i := 229) rfl)) rfl, Or.inr ⟨rfl, rfl, rfl⟩⟩
theorem fl_X11_16 : zq_FL RX11 16 11 1 := ⟨_, _, _, rfl, by decide, zq_in (zq_t1 (List.mem_of_getElem? (i := 230) rfl)) rfl⟩
theorem pl_X11_16 : zq_PL RX11 "<init>" 16 11 1 := ⟨_, _, _, rfl, by decide, zq_in (zq_t1 (List.mem_of_getElem? (i := 230) rfl)) rfl, Or.inr ⟨rfl, rfl, rfl⟩⟩
theorem fl_X11_20 : zq_FL RX11 20 11 2 := ⟨_, _, _, rfl, by decide, zq_in (zq_t1 (List.mem_of_getElem? (i := 231) rfl)) rfl⟩
theorem pl_X11_20 : zq_PL RX11 "<init>" 20 11 2 := ⟨_, _, _, rfl, by decide, zq_in (zq_t1 (List.mem_of_getElem? (i := 231) rfl)) rfl, Or.inr ⟨rfl, rfl, rfl⟩⟩
theorem fl_X11_23 : zq_FL RX11 23 11 3 := ⟨_, _, _, rfl, by decide, zq_in (zq_t1 (List.mem_of_getElem? (i := 232) rfl)) rfl⟩
theorem pl_X11_23 : zq_PL RX11 "<init>" 23 11 3 := ⟨_, _, _, rfl, by decide, zq_in (zq_t1 (List.mem_of_getElem? (i := 232) rfl)) rfl, Or.inr ⟨rfl, rfl, rfl⟩⟩
theorem cl_X11_26 : Cond.classLink RX11 26 RX4 ∈ zq_ws := zq_in (zq_t1 (List.mem_of_getElem? (i := 101) rfl)) rfl
theorem mi_X4_init : zq_MI yX4_init 0 := ⟨zq_in (zq_t1 (List.mem_of_getElem? (i := 3) rfl)) rfl, ⟨by decide, by decide⟩, by decide +kernel⟩
theorem cw_X4_init : Cond.code yX4_init cX4_init 1 none ∈ zq_ws := zq_in (zq_t1 (List.mem_of_getElem? (i := 105) rfl)) rfl
theorem mc_X11_28 : zq_MC RX11 28 yX4_init 0 := ⟨Or.inr (by decide +kernel), rfl, zq_in (zq_t1 (List.mem_of_getElem? (i := 104) rfl)) rfl, mi_X4_init⟩
theorem fl_X11_29 : zq_FL RX11 29 11 4 := ⟨_, _, _, rfl, by decide, zq_in (zq_t1 (List.mem_of_getElem? (i := 233) rfl)) rfl⟩
theorem pl_X11_29 : zq_PL RX11 "<init>" 29 11 4 := ⟨_, _, _, rfl, by decide, zq_in (zq_t1 (List.mem_of_getElem? (i := 233) rfl)) rfl, Or.inr ⟨rfl, rfl, rfl⟩⟩
theorem fl_X11_33 : zq_FL RX11 33 11 5 := ⟨_, _, _, rfl, by decide, zq_in (zq_t1 (List.mem_of_getElem? (i := 234) rfl)) rfl⟩
theorem pl_X11_33 : zq_PL RX11 "<init>" 33 11 5 := ⟨_, _, _, rfl, by decide, zq_in (zq_t1 (List.mem_of_getElem? (i := 234) rfl)) rfl, Or.inr ⟨rfl, rfl, rfl⟩⟩
theorem fl_X11_36 : zq_FL RX11 36 11 6 := ⟨_, _, _, rfl, by decide, zq_in (zq_t1 (List.mem_of_getElem? (i := 235) rfl)) rfl⟩
theorem pl_X11_36 : zq_PL RX11 "<init>" 36 11 6 := ⟨_, _, _, rfl, by decide, zq_in (zq_t1 (List.mem_of_getElem? (i := 235) rfl)) rfl, Or.inr ⟨rfl, rfl, rfl⟩⟩
theorem fl_X11_40 : zq_FL RX11 40 11 7 := ⟨_, _, _, rfl, by decide, zq_in (zq_t1 (List.mem_of_getElem? (i := 236) rfl)) rfl⟩
theorem pl_X11_40 (nm : String) : zq_PL RX11 nm 40 11 7 := ⟨_, _, _, rfl, by decide, zq_in (zq_t1 (List.mem_of_getElem? (i := 236) rfl)) rfl, Or.inl rfl⟩
theorem cl_X11_44 : Cond.classLink RX11 44 RX8 ∈ zq_ws := zq_in (zq_t1 (List.mem_of_getElem? (i := 115) rfl)) rfl
theorem mi_X8_init : zq_MI yX8_init 0 := ⟨zq_in (zq_t1 (List.mem_of_getElem? (i := 4) rfl)) rfl, ⟨by decide, by decide⟩, by decide +kernel⟩
theorem cw_X8_init : Cond.code yX8_init cX8_init 1 none ∈ zq_ws := zq_in (zq_t1 (List.mem_of_getElem? (i := 119) rfl)) rfl
theorem mc_X11_46 : zq_MC RX11 46 yX8_init 0 := ⟨Or.inr (by decide +kernel), rfl, zq_in (zq_t1 (List.mem_of_getElem? (i := 118) rfl)) rfl, mi_X8_init⟩
theorem fl_X11_47 : zq_FL RX11 47 11 8 := ⟨_, _, _, rfl, by decide, zq_in (zq_t1 (List.mem_of_getElem? (i := 237) rfl)) rfl⟩
theorem pl_X11_47 : zq_PL RX11 "<init>" 47 11 8 := ⟨_, _, _, rfl, by decide, zq_in (zq_t1 (List.mem_of_getElem? (i := 237) rfl)) rfl, Or.inr ⟨rfl, rfl, rfl⟩⟩
theorem cl_X11_51 : Cond.classLink RX11 51 RX3 ∈ zq_ws := zq_in (zq_t1 (List.mem_of_getElem? (i := 149) rfl)) rfl
theorem mi_X3_init : zq_MI yX3_init 0 := ⟨zq_in (zq_t1 (List.mem_of_getElem? (i := 5) rfl)) rfl, ⟨by decide, by decide⟩, by decide +kernel⟩
theorem cw_X3_init : Cond.code yX3_init cX3_init 1 none ∈ zq_ws := zq_in (zq_t1 (List.mem_of_getElem? (i := 153) rfl)) rfl
theorem mc_X11_53 : zq_MC RX11 53 yX3_init 0 := ⟨Or.inr (by decide +kernel), rfl, zq_in (zq_t1 (List.mem_of_getElem? (i := 152) rfl)) rfl, mi_X3_init⟩
theorem fl_X11_54 : zq_FL RX11 54 11 9 := ⟨_, _, _, rfl, by decide, zq_in (zq_t1 (List.mem_of_getElem? (i := 238) rfl)) rfl⟩
theorem pl_X11_54 : zq_PL RX11 "<init>" 54 11 9 := ⟨_, _, _, rfl, by decide, zq_in (zq_t1 (List.mem_of_getElem? (i := 238) rfl)) rfl, Or.inr ⟨rfl, rfl, rfl⟩⟩
theorem cl_X11_58 : Cond.classLink RX11 58 RX0 ∈ zq_ws := zq_in (zq_t1 (List.mem_of_getElem? (i := 173) rfl)) rfl
theorem mi_X0_init : zq_MI yX0_init 0 := ⟨zq_in (zq_t1 (List.mem_of_getElem? (i := 7) rfl)) rfl, ⟨by decide, by decide⟩, by decide +kernel⟩
theorem cw_X0_init : Cond.code yX0_init cX0_init 1 none ∈ zq_ws := zq_in (zq_t1 (List.mem_of_getElem? (i := 177) rfl)) rfl
theorem mc_X11_60 : zq_MC RX11 60 yX0_init 0 := ⟨Or.inr (by decide +kernel), rfl, zq_in (zq_t1 (List.mem_of_getElem? (i := 176) rfl)) rfl, mi_X0_init⟩
theorem fl_X11_61 : zq_FL RX11 61 11 10 := ⟨_, _, _, rfl, by decide, zq_in (zq_t1 (List.mem_of_getElem? (i := 239) rfl)) rfl⟩
theorem pl_X11_61 : zq_PL RX11 "<init>" 61 11 10 := ⟨_, _, _, rfl, by decide, zq_in (zq_t1 (List.mem_of_getElem? (i := 239) rfl)) rfl, Or.inr ⟨rfl, rfl, rfl⟩⟩
theorem cl_X11_65 : Cond.classLink RX11 65 RX5 ∈ zq_ws := zq_in (zq_t1 (List.mem_of_getElem? (i := 195) rfl)) rfl
theorem mi_X5_init : zq_MI yX5_init 0 := ⟨zq_in (zq_t1 (List.mem_of_getElem? (i := 8) rfl)) rfl, ⟨by decide, by decide⟩, by decide +kernel⟩
theorem cw_X5_init : Cond.code yX5_init cX5_init 1 none ∈ zq_ws := zq_in (zq_t1 (List.mem_of_getElem? (i := 199) rfl)) rfl
theorem mc_X11_67 : zq_MC RX11 67 yX5_init 0 := ⟨Or.inr (by decide +kernel), rfl, zq_in (zq_t1 (List.mem_of_getElem? (i := 198) rfl)) rfl, mi_X5_init⟩
theorem fl_X11_68 : zq_FL RX11 68 11 11 := ⟨_, _, _, rfl, by decide, zq_in (zq_t2 (List.mem_of_getElem? (i := 0) rfl)) rfl⟩
theorem pl_X11_68 : zq_PL RX11 "<init>" 68 11 11 := ⟨_, _, _, rfl, by decide, zq_in (zq_t2 (List.mem_of_getElem? (i := 0) rfl)) rfl, Or.inr ⟨rfl, rfl, rfl⟩⟩
theorem cl_X11_72 : Cond.classLink RX11 72 RX2 ∈ zq_ws := zq_in (zq_t1 (List.mem_of_getElem? (i := 208) rfl)) rfl
theorem mi_X2_init : zq_MI yX2_init 0 := ⟨zq_in (zq_t1 (List.mem_of_getElem? (i := 9) rfl)) rfl, ⟨by decide, by decide⟩, by decide +kernel⟩
theorem cw_X2_init : Cond.code yX2_init cX2_init 1 none ∈ zq_ws := zq_in (zq_t1 (List.mem_of_getElem? (i := 212) rfl)) rfl
theorem mc_X11_74 : zq_MC RX11 74 yX2_init 0 := ⟨Or.inr (by decide +kernel), rfl, zq_in (zq_t1 (List.mem_of_getElem? (i := 211) rfl)) rfl, mi_X2_init⟩
theorem fl_X11_75 : zq_FL RX11 75 11 12 := ⟨_, _, _, rfl, by decide, zq_in (zq_t2 (List.mem_of_getElem? (i := 1) rfl)) rfl⟩
theorem pl_X11_75 : zq_PL RX11 "<init>" 75 11 12 := ⟨_, _, _, rfl, by decide, zq_in (zq_t2 (List.mem_of_getElem? (i := 1) rfl)) rfl, Or.inr ⟨rfl, rfl, rfl⟩⟩
theorem fl_X11_79 : zq_FL RX11 79 11 13 := ⟨_, _, _, rfl, by decide, zq_in (zq_t2 (List.mem_of_getElem? (i := 2) rfl)) rfl⟩
theorem pl_X11_79 : zq_PL RX11 "<init>" 79 11 13 := ⟨_, _, _, rfl, by decide, zq_in (zq_t2 (List.mem_of_getElem? (i := 2) rfl)) rfl, Or.inr ⟨rfl, rfl, rfl⟩⟩
theorem fl_X11_82 : zq_FL RX11 82 11 14 := ⟨_, _, _, rfl, by decide, zq_in (zq_t2 (List.mem_of_getElem? (i := 3) rfl)) rfl⟩
theorem pl_X11_82 : zq_PL RX11 "<init>" 82 11 14 := ⟨_, _, _, rfl, by decide, zq_in (zq_t2 (List.mem_of_getElem? (i := 3) rfl)) rfl, Or.inr ⟨rfl, rfl, rfl⟩⟩
theorem fl_X11_85 : zq_FL RX11 85 11 15 := ⟨_, _, _, rfl, by decide, zq_in (zq_t2 (List.mem_of_getElem? (i := 4) rfl)) rfl⟩
theorem pl_X11_85 (nm : String) : zq_PL RX11 nm 85 11 15 := ⟨_, _, _, rfl, by decide, zq_in (zq_t2 (List.mem_of_getElem? (i := 4) rfl)) rfl, Or.inl rfl⟩
theorem fl_X11_88 : zq_FL RX11 88 11 16 := ⟨_, _, _, rfl, by decide, zq_in (zq_t2 (List.mem_of_getElem? (i := 5) rfl)) rfl⟩
theorem pl_X11_88 (nm : String) : zq_PL RX11 nm 88 11 16 := ⟨_, _, _, rfl, by decide, zq_in (zq_t2 (List.mem_of_getElem? (i := 5) rfl)) rfl, Or.inl rfl⟩
theorem fl_X11_91 : zq_FL RX11 91 11 17 := ⟨_, _, _, rfl, by decide, zq_in (zq_t2 (List.mem_of_getElem? (i := 6) rfl)) rfl⟩
theorem pl_X11_91 (nm : String) : zq_PL RX11 nm 91 11 17 := ⟨_, _, _, rfl, by decide, zq_in (zq_t2 (List.mem_of_getElem? (i := 6) rfl)) rfl, Or.inl rfl⟩
theorem fl_X11_94 : zq_FL RX11 94 11 18 := ⟨_, _, _, rfl, by decide, zq_in (zq_t2 (List.mem_of_getElem? (i := 7) rfl)) rfl⟩
theorem pl_X11_94 (nm : String) : zq_PL RX11 nm 94 11 18 := ⟨_, _, _, rfl, by decide, zq_in (zq_t2 (List.mem_of_getElem? (i := 7) rfl)) rfl, Or.inl rfl⟩
theorem mi_X6_isName : zq_MI yX6_isName 1 := ⟨zq_in (zq_t1 (List.mem_of_getElem? (i := 11) rfl)) rfl, ⟨by decide, by decide⟩, by decide +kernel⟩
theorem cw_X6_isName : Cond.code yX6_isName cX6_isName 3 (some .boolean) ∈ zq_ws := zq_in (zq_t2 (List.mem_of_getElem? (i := 53) rfl)) rfl
theorem ms_X11_97 : zq_MS RX11 97 yX6_isName 1 := ⟨Or.inl (zq_in (zq_t2 (List.mem_of_getElem? (i := 51) rfl)) rfl), zq_in (zq_t2 (List.mem_of_getElem? (i := 52) rfl)) rfl, mi_X6_isName⟩
theorem mi_X11_refuse : zq_MI yX11_refuse 1 := ⟨zq_in (zq_t1 (List.mem_of_getElem? (i := 1) rfl)) rfl, ⟨by decide, by decide⟩, by decide +kernel⟩
theorem cw_X11_refuse : Cond.code yX11_refuse cX11_refuse 3 (some .int) ∈ zq_ws := zq_in (zq_t2 (List.mem_of_getElem? (i := 60) rfl)) rfl
theorem mv_X11_103 : zq_MV RX11 103 11 yX11_refuse 1 := ⟨zq_in (zq_t2 (List.mem_of_getElem? (i := 57) rfl)) rfl, zq_in (zq_t2 (List.mem_of_getElem? (i := 59) rfl)) rfl, ⟨_, rfl, zq_in (zq_ts (List.mem_of_getElem? (i := 0) rfl)) rfl⟩, mi_X11_refuse⟩
theorem mi_X7_hasRoom : zq_MI yX7_hasRoom 0 := ⟨zq_in (zq_t1 (List.mem_of_getElem? (i := 2) rfl)) rfl, ⟨by decide, by decide⟩, by decide +kernel⟩
theorem cw_X7_hasRoom : Cond.code yX7_hasRoom cX7_hasRoom 1 (some .boolean) ∈ zq_ws := zq_in (zq_t2 (List.mem_of_getElem? (i := 64) rfl)) rfl
theorem mv_X11_107 : zq_MV RX11 107 7 yX7_hasRoom 0 := ⟨zq_in (zq_t2 (List.mem_of_getElem? (i := 61) rfl)) rfl, zq_in (zq_t2 (List.mem_of_getElem? (i := 62) rfl)) rfl, ⟨_, rfl, zq_in (zq_t2 (List.mem_of_getElem? (i := 63) rfl)) rfl⟩, mi_X7_hasRoom⟩
theorem mi_X4_clear : zq_MI yX4_clear 0 := ⟨zq_in (zq_t1 (List.mem_of_getElem? (i := 3) rfl)) rfl, ⟨by decide, by decide⟩, by decide +kernel⟩
theorem cw_X4_clear : Cond.code yX4_clear cX4_clear 1 none ∈ zq_ws := zq_in (zq_t2 (List.mem_of_getElem? (i := 68) rfl)) rfl
theorem mv_X11_111 : zq_MV RX11 111 4 yX4_clear 0 := ⟨zq_in (zq_t2 (List.mem_of_getElem? (i := 65) rfl)) rfl, zq_in (zq_t2 (List.mem_of_getElem? (i := 66) rfl)) rfl, ⟨_, rfl, zq_in (zq_t2 (List.mem_of_getElem? (i := 67) rfl)) rfl⟩, mi_X4_clear⟩
theorem mi_X7_add : zq_MI yX7_add 1 := ⟨zq_in (zq_t1 (List.mem_of_getElem? (i := 2) rfl)) rfl, ⟨by decide, by decide⟩, by decide +kernel⟩
theorem cw_X7_add : Cond.code yX7_add cX7_add 4 (some .int) ∈ zq_ws := zq_in (zq_t2 (List.mem_of_getElem? (i := 72) rfl)) rfl
theorem mv_X11_114 : zq_MV RX11 114 7 yX7_add 1 := ⟨zq_in (zq_t2 (List.mem_of_getElem? (i := 69) rfl)) rfl, zq_in (zq_t2 (List.mem_of_getElem? (i := 70) rfl)) rfl, ⟨_, rfl, zq_in (zq_t2 (List.mem_of_getElem? (i := 71) rfl)) rfl⟩, mi_X7_add⟩
theorem mi_X11_accept : zq_MI yX11_accept 1 := ⟨zq_in (zq_t1 (List.mem_of_getElem? (i := 1) rfl)) rfl, ⟨by decide, by decide⟩, by decide +kernel⟩
theorem cw_X11_accept : Cond.code yX11_accept cX11_accept 2 (some .int) ∈ zq_ws := zq_in (zq_t2 (List.mem_of_getElem? (i := 86) rfl)) rfl
theorem mv_X11_117 : zq_MV RX11 117 11 yX11_accept 1 := ⟨zq_in (zq_t2 (List.mem_of_getElem? (i := 83) rfl)) rfl, zq_in (zq_t2 (List.mem_of_getElem? (i := 85) rfl)) rfl, ⟨_, rfl, zq_in (zq_ts (List.mem_of_getElem? (i := 1) rfl)) rfl⟩, mi_X11_accept⟩
theorem mi_X7_has : zq_MI yX7_has 1 := ⟨zq_in (zq_t1 (List.mem_of_getElem? (i := 2) rfl)) rfl, ⟨by decide, by decide⟩, by decide +kernel⟩
theorem cw_X7_has : Cond.code yX7_has cX7_has 2 (some .boolean) ∈ zq_ws := zq_in (zq_t2 (List.mem_of_getElem? (i := 81) rfl)) rfl
theorem mv_X11_120 : zq_MV RX11 120 7 yX7_has 1 := ⟨zq_in (zq_t2 (List.mem_of_getElem? (i := 91) rfl)) rfl, zq_in (zq_t2 (List.mem_of_getElem? (i := 79) rfl)) rfl, ⟨_, rfl, zq_in (zq_t2 (List.mem_of_getElem? (i := 80) rfl)) rfl⟩, mi_X7_has⟩
theorem fl_X11_123 : zq_FL RX11 123 7 1 := ⟨_, _, _, rfl, by decide, zq_in (zq_t1 (List.mem_of_getElem? (i := 44) rfl)) rfl⟩
theorem fl_X11_126 : zq_FL RX11 126 7 3 := ⟨_, _, _, rfl, by decide, zq_in (zq_t1 (List.mem_of_getElem? (i := 49) rfl)) rfl⟩
theorem mi_X7_inForce : zq_MI yX7_inForce 0 := ⟨zq_in (zq_t1 (List.mem_of_getElem? (i := 2) rfl)) rfl, ⟨by decide, by decide⟩, by decide +kernel⟩
theorem cw_X7_inForce : Cond.code yX7_inForce cX7_inForce 1 (some (.object "LetterQuay$Text")) ∈ zq_ws := zq_in (zq_t2 (List.mem_of_getElem? (i := 95) rfl)) rfl
theorem mv_X11_129 : zq_MV RX11 129 7 yX7_inForce 0 := ⟨zq_in (zq_t2 (List.mem_of_getElem? (i := 92) rfl)) rfl, zq_in (zq_t2 (List.mem_of_getElem? (i := 93) rfl)) rfl, ⟨_, rfl, zq_in (zq_t2 (List.mem_of_getElem? (i := 94) rfl)) rfl⟩, mi_X7_inForce⟩
theorem mi_X3_stepCost : zq_MI yX3_stepCost 3 := ⟨zq_in (zq_t1 (List.mem_of_getElem? (i := 5) rfl)) rfl, ⟨by decide, by decide⟩, by decide +kernel⟩
theorem cw_X3_stepCost : Cond.code yX3_stepCost cX3_stepCost 4 (some .int) ∈ zq_ws := zq_in (zq_t2 (List.mem_of_getElem? (i := 107) rfl)) rfl
theorem mv_X11_133 : zq_MV RX11 133 3 yX3_stepCost 3 := ⟨zq_in (zq_t2 (List.mem_of_getElem? (i := 104) rfl)) rfl, zq_in (zq_t2 (List.mem_of_getElem? (i := 105) rfl)) rfl, ⟨_, rfl, zq_in (zq_t2 (List.mem_of_getElem? (i := 106) rfl)) rfl⟩, mi_X3_stepCost⟩
theorem mi_X3_isBarred : zq_MI yX3_isBarred 3 := ⟨zq_in (zq_t1 (List.mem_of_getElem? (i := 5) rfl)) rfl, ⟨by decide, by decide⟩, by decide +kernel⟩
theorem cw_X3_isBarred : Cond.code yX3_isBarred cX3_isBarred 6 (some .boolean) ∈ zq_ws := zq_in (zq_t2 (List.mem_of_getElem? (i := 144) rfl)) rfl
theorem mv_X11_137 : zq_MV RX11 137 3 yX3_isBarred 3 := ⟨zq_in (zq_t2 (List.mem_of_getElem? (i := 141) rfl)) rfl, zq_in (zq_t2 (List.mem_of_getElem? (i := 142) rfl)) rfl, ⟨_, rfl, zq_in (zq_t2 (List.mem_of_getElem? (i := 143) rfl)) rfl⟩, mi_X3_isBarred⟩
theorem fl_X11_141 : zq_FL RX11 141 7 2 := ⟨_, _, _, rfl, by decide, zq_in (zq_t1 (List.mem_of_getElem? (i := 47) rfl)) rfl⟩
theorem mi_X11_isLetterPlace : zq_MI yX11_isLetterPlace 1 := ⟨zq_in (zq_t1 (List.mem_of_getElem? (i := 1) rfl)) rfl, ⟨by decide, by decide⟩, by decide +kernel⟩
theorem cw_X11_isLetterPlace : Cond.code yX11_isLetterPlace cX11_isLetterPlace 1 (some .boolean) ∈ zq_ws := zq_in (zq_t2 (List.mem_of_getElem? (i := 155) rfl)) rfl
theorem ms_X11_144 : zq_MS RX11 144 yX11_isLetterPlace 1 := ⟨Or.inl (zq_in (zq_t2 (List.mem_of_getElem? (i := 153) rfl)) rfl), zq_in (zq_t2 (List.mem_of_getElem? (i := 154) rfl)) rfl, mi_X11_isLetterPlace⟩
theorem mi_X11_isLetter : zq_MI yX11_isLetter 1 := ⟨zq_in (zq_t1 (List.mem_of_getElem? (i := 1) rfl)) rfl, ⟨by decide, by decide⟩, by decide +kernel⟩
theorem cw_X11_isLetter : Cond.code yX11_isLetter cX11_isLetter 1 (some .boolean) ∈ zq_ws := zq_in (zq_t2 (List.mem_of_getElem? (i := 56) rfl)) rfl
theorem ms_X11_147 : zq_MS RX11 147 yX11_isLetter 1 := ⟨Or.inl (zq_in (zq_t2 (List.mem_of_getElem? (i := 156) rfl)) rfl), zq_in (zq_t2 (List.mem_of_getElem? (i := 55) rfl)) rfl, mi_X11_isLetter⟩
theorem mi_X6_letterOf : zq_MI yX6_letterOf 2 := ⟨zq_in (zq_t1 (List.mem_of_getElem? (i := 11) rfl)) rfl, ⟨by decide, by decide⟩, by decide +kernel⟩
theorem cw_X6_letterOf : Cond.code yX6_letterOf cX6_letterOf 2 (some .int) ∈ zq_ws := zq_in (zq_t2 (List.mem_of_getElem? (i := 159) rfl)) rfl
theorem ms_X11_150 : zq_MS RX11 150 yX6_letterOf 2 := ⟨Or.inl (zq_in (zq_t2 (List.mem_of_getElem? (i := 157) rfl)) rfl), zq_in (zq_t2 (List.mem_of_getElem? (i := 158) rfl)) rfl, mi_X6_letterOf⟩
theorem mi_X3_strokeCost : zq_MI yX3_strokeCost 5 := ⟨zq_in (zq_t1 (List.mem_of_getElem? (i := 5) rfl)) rfl, ⟨by decide, by decide⟩, by decide +kernel⟩
theorem cw_X3_strokeCost : Cond.code yX3_strokeCost cX3_strokeCost 6 (some .int) ∈ zq_ws := zq_in (zq_t2 (List.mem_of_getElem? (i := 169) rfl)) rfl
theorem mv_X11_154 : zq_MV RX11 154 3 yX3_strokeCost 5 := ⟨zq_in (zq_t2 (List.mem_of_getElem? (i := 166) rfl)) rfl, zq_in (zq_t2 (List.mem_of_getElem? (i := 167) rfl)) rfl, ⟨_, rfl, zq_in (zq_t2 (List.mem_of_getElem? (i := 168) rfl)) rfl⟩, mi_X3_strokeCost⟩
theorem mi_X7_said : zq_MI yX7_said 2 := ⟨zq_in (zq_t1 (List.mem_of_getElem? (i := 2) rfl)) rfl, ⟨by decide, by decide⟩, by decide +kernel⟩
theorem cw_X7_said : Cond.code yX7_said cX7_said 3 (some .int) ∈ zq_ws := zq_in (zq_t2 (List.mem_of_getElem? (i := 178) rfl)) rfl
theorem mv_X11_158 : zq_MV RX11 158 7 yX7_said 2 := ⟨zq_in (zq_t2 (List.mem_of_getElem? (i := 175) rfl)) rfl, zq_in (zq_t2 (List.mem_of_getElem? (i := 176) rfl)) rfl, ⟨_, rfl, zq_in (zq_t2 (List.mem_of_getElem? (i := 177) rfl)) rfl⟩, mi_X7_said⟩
theorem mi_X7_teach : zq_MI yX7_teach 3 := ⟨zq_in (zq_t1 (List.mem_of_getElem? (i := 2) rfl)) rfl, ⟨by decide, by decide⟩, by decide +kernel⟩
theorem cw_X7_teach : Cond.code yX7_teach cX7_teach 4 none ∈ zq_ws := zq_in (zq_t2 (List.mem_of_getElem? (i := 77) rfl)) rfl
theorem mv_X11_161 : zq_MV RX11 161 7 yX7_teach 3 := ⟨zq_in (zq_t2 (List.mem_of_getElem? (i := 179) rfl)) rfl, zq_in (zq_t2 (List.mem_of_getElem? (i := 75) rfl)) rfl, ⟨_, rfl, zq_in (zq_t2 (List.mem_of_getElem? (i := 76) rfl)) rfl⟩, mi_X7_teach⟩
theorem mi_X7_alphabetNumber : zq_MI yX7_alphabetNumber 0 := ⟨zq_in (zq_t1 (List.mem_of_getElem? (i := 2) rfl)) rfl, ⟨by decide, by decide⟩, by decide +kernel⟩
theorem cw_X7_alphabetNumber : Cond.code yX7_alphabetNumber cX7_alphabetNumber 3 (some .int) ∈ zq_ws := zq_in (zq_t2 (List.mem_of_getElem? (i := 187) rfl)) rfl
theorem mv_X11_165 : zq_MV RX11 165 7 yX7_alphabetNumber 0 := ⟨zq_in (zq_t2 (List.mem_of_getElem? (i := 184) rfl)) rfl, zq_in (zq_t2 (List.mem_of_getElem? (i := 185) rfl)) rfl, ⟨_, rfl, zq_in (zq_t2 (List.mem_of_getElem? (i := 186) rfl)) rfl⟩, mi_X7_alphabetNumber⟩
theorem sl_X11_169 : zq_SL RX11 169 2 := ⟨⟨by decide, by decide⟩, Or.inl (zq_in (zq_t2 (List.mem_of_getElem? (i := 192) rfl)) rfl)⟩
theorem fl_X11_172 : zq_FL RX11 172 7 7 := ⟨_, _, _, rfl, by decide, zq_in (zq_t1 (List.mem_of_getElem? (i := 58) rfl)) rfl⟩
theorem mi_X11_putFour : zq_MI yX11_putFour 1 := ⟨zq_in (zq_t1 (List.mem_of_getElem? (i := 1) rfl)) rfl, ⟨by decide, by decide⟩, by decide +kernel⟩
theorem cw_X11_putFour : Cond.code yX11_putFour cX11_putFour 3 none ∈ zq_ws := zq_in (zq_t2 (List.mem_of_getElem? (i := 201) rfl)) rfl
theorem mv_X11_175 : zq_MV RX11 175 11 yX11_putFour 1 := ⟨zq_in (zq_t2 (List.mem_of_getElem? (i := 198) rfl)) rfl, zq_in (zq_t2 (List.mem_of_getElem? (i := 200) rfl)) rfl, ⟨_, rfl, zq_in (zq_ts (List.mem_of_getElem? (i := 4) rfl)) rfl⟩, mi_X11_putFour⟩
theorem mi_X11_nameOnTape : zq_MI yX11_nameOnTape 1 := ⟨zq_in (zq_t1 (List.mem_of_getElem? (i := 1) rfl)) rfl, ⟨by decide, by decide⟩, by decide +kernel⟩
theorem cw_X11_nameOnTape : Cond.code yX11_nameOnTape cX11_nameOnTape 6 (some .int) ∈ zq_ws := zq_in (zq_t2 (List.mem_of_getElem? (i := 213) rfl)) rfl
theorem mv_X11_179 : zq_MV RX11 179 11 yX11_nameOnTape 1 := ⟨zq_in (zq_t2 (List.mem_of_getElem? (i := 210) rfl)) rfl, zq_in (zq_t2 (List.mem_of_getElem? (i := 212) rfl)) rfl, ⟨_, rfl, zq_in (zq_ts (List.mem_of_getElem? (i := 5) rfl)) rfl⟩, mi_X11_nameOnTape⟩
theorem fl_X11_182 : zq_FL RX11 182 7 11 := ⟨_, _, _, rfl, by decide, zq_in (zq_t1 (List.mem_of_getElem? (i := 66) rfl)) rfl⟩
theorem pl_X11_182 (nm : String) : zq_PL RX11 nm 182 7 11 := ⟨_, _, _, rfl, by decide, zq_in (zq_t1 (List.mem_of_getElem? (i := 66) rfl)) rfl, Or.inl rfl⟩
theorem mi_X8_read : zq_MI yX8_read 3 := ⟨zq_in (zq_t1 (List.mem_of_getElem? (i := 4) rfl)) rfl, ⟨by decide, by decide⟩, by decide +kernel⟩
theorem cw_X8_read : Cond.code yX8_read cX8_read 6 (some (.object "LetterQuay$Text")) ∈ zq_ws := zq_in (zq_t2 (List.mem_of_getElem? (i := 225) rfl)) rfl
theorem mv_X11_185 : zq_MV RX11 185 8 yX8_read 3 := ⟨zq_in (zq_t2 (List.mem_of_getElem? (i := 222) rfl)) rfl, zq_in (zq_t2 (List.mem_of_getElem? (i := 223) rfl)) rfl, ⟨_, rfl, zq_in (zq_t2 (List.mem_of_getElem? (i := 224) rfl)) rfl⟩, mi_X8_read⟩
theorem mi_X8_faultPlace : zq_MI yX8_faultPlace 0 := ⟨zq_in (zq_t1 (List.mem_of_getElem? (i := 4) rfl)) rfl, ⟨by decide, by decide⟩, by decide +kernel⟩
theorem cw_X8_faultPlace : Cond.code yX8_faultPlace cX8_faultPlace 1 (some .int) ∈ zq_ws := zq_in (zq_t3 (List.mem_of_getElem? (i := 216) rfl)) rfl
theorem mv_X11_189 : zq_MV RX11 189 8 yX8_faultPlace 0 := ⟨zq_in (zq_t3 (List.mem_of_getElem? (i := 213) rfl)) rfl, zq_in (zq_t3 (List.mem_of_getElem? (i := 214) rfl)) rfl, ⟨_, rfl, zq_in (zq_t3 (List.mem_of_getElem? (i := 215) rfl)) rfl⟩, mi_X8_faultPlace⟩
theorem mi_X7_addLaw : zq_MI yX7_addLaw 1 := ⟨zq_in (zq_t1 (List.mem_of_getElem? (i := 2) rfl)) rfl, ⟨by decide, by decide⟩, by decide +kernel⟩
theorem cw_X7_addLaw : Cond.code yX7_addLaw cX7_addLaw 3 (some .int) ∈ zq_ws := zq_in (zq_t3 (List.mem_of_getElem? (i := 220) rfl)) rfl
theorem mv_X11_192 : zq_MV RX11 192 7 yX7_addLaw 1 := ⟨zq_in (zq_t3 (List.mem_of_getElem? (i := 217) rfl)) rfl, zq_in (zq_t3 (List.mem_of_getElem? (i := 218) rfl)) rfl, ⟨_, rfl, zq_in (zq_t3 (List.mem_of_getElem? (i := 219) rfl)) rfl⟩, mi_X7_addLaw⟩
theorem mi_X7_copyFrom : zq_MI yX7_copyFrom 1 := ⟨zq_in (zq_t1 (List.mem_of_getElem? (i := 2) rfl)) rfl, ⟨by decide, by decide⟩, by decide +kernel⟩
theorem cw_X7_copyFrom : Cond.code yX7_copyFrom cX7_copyFrom 3 none ∈ zq_ws := zq_in (zq_t3 (List.mem_of_getElem? (i := 228) rfl)) rfl
theorem mv_X11_196 : zq_MV RX11 196 7 yX7_copyFrom 1 := ⟨zq_in (zq_t3 (List.mem_of_getElem? (i := 225) rfl)) rfl, zq_in (zq_t3 (List.mem_of_getElem? (i := 226) rfl)) rfl, ⟨_, rfl, zq_in (zq_t3 (List.mem_of_getElem? (i := 227) rfl)) rfl⟩, mi_X7_copyFrom⟩
theorem mi_X4_copyFrom : zq_MI yX4_copyFrom 1 := ⟨zq_in (zq_t1 (List.mem_of_getElem? (i := 3) rfl)) rfl, ⟨by decide, by decide⟩, by decide +kernel⟩
theorem cw_X4_copyFrom : Cond.code yX4_copyFrom cX4_copyFrom 2 none ∈ zq_ws := zq_in (zq_t3 (List.mem_of_getElem? (i := 234) rfl)) rfl
theorem mv_X11_200 : zq_MV RX11 200 4 yX4_copyFrom 1 := ⟨zq_in (zq_t3 (List.mem_of_getElem? (i := 231) rfl)) rfl, zq_in (zq_t3 (List.mem_of_getElem? (i := 232) rfl)) rfl, ⟨_, rfl, zq_in (zq_t3 (List.mem_of_getElem? (i := 233) rfl)) rfl⟩, mi_X4_copyFrom⟩
theorem fl_X11_203 : zq_FL RX11 203 10 1 := ⟨_, _, _, rfl, by decide, zq_in (zq_t3 (List.mem_of_getElem? (i := 66) rfl)) rfl⟩
theorem pl_X11_203 (nm : String) : zq_PL RX11 nm 203 10 1 := ⟨_, _, _, rfl, by decide, zq_in (zq_t3 (List.mem_of_getElem? (i := 66) rfl)) rfl, Or.inl rfl⟩
theorem fl_X11_208 : zq_FL RX11 208 10 0 := ⟨_, _, _, rfl, by decide, zq_in (zq_t3 (List.mem_of_getElem? (i := 62) rfl)) rfl⟩
theorem mi_X11_runClause : zq_MI yX11_runClause 2 := ⟨zq_in (zq_t1 (List.mem_of_getElem? (i := 1) rfl)) rfl, ⟨by decide, by decide⟩, by decide +kernel⟩
theorem cw_X11_runClause : Cond.code yX11_runClause cX11_runClause 4 (some .boolean) ∈ zq_ws := zq_in (zq_t3 (List.mem_of_getElem? (i := 239) rfl)) rfl
theorem mv_X11_212 : zq_MV RX11 212 11 yX11_runClause 2 := ⟨zq_in (zq_t3 (List.mem_of_getElem? (i := 236) rfl)) rfl, zq_in (zq_t3 (List.mem_of_getElem? (i := 238) rfl)) rfl, ⟨_, rfl, zq_in (zq_ts (List.mem_of_getElem? (i := 25) rfl)) rfl⟩, mi_X11_runClause⟩
theorem mi_X7_hasLaw : zq_MI yX7_hasLaw 1 := ⟨zq_in (zq_t1 (List.mem_of_getElem? (i := 2) rfl)) rfl, ⟨by decide, by decide⟩, by decide +kernel⟩
theorem cw_X7_hasLaw : Cond.code yX7_hasLaw cX7_hasLaw 2 (some .boolean) ∈ zq_ws := zq_in (zq_t2 (List.mem_of_getElem? (i := 103) rfl)) rfl
theorem mv_X11_216 : zq_MV RX11 216 7 yX7_hasLaw 1 := ⟨zq_in (zq_t4 (List.mem_of_getElem? (i := 82) rfl)) rfl, zq_in (zq_t2 (List.mem_of_getElem? (i := 101) rfl)) rfl, ⟨_, rfl, zq_in (zq_t2 (List.mem_of_getElem? (i := 102) rfl)) rfl⟩, mi_X7_hasLaw⟩
theorem fl_X11_219 : zq_FL RX11 219 7 13 := ⟨_, _, _, rfl, by decide, zq_in (zq_t1 (List.mem_of_getElem? (i := 69) rfl)) rfl⟩
theorem pl_X11_219 (nm : String) : zq_PL RX11 nm 219 7 13 := ⟨_, _, _, rfl, by decide, zq_in (zq_t1 (List.mem_of_getElem? (i := 69) rfl)) rfl, Or.inl rfl⟩
theorem mi_X11_strokeNow : zq_MI yX11_strokeNow 3 := ⟨zq_in (zq_t1 (List.mem_of_getElem? (i := 1) rfl)) rfl, ⟨by decide, by decide⟩, by decide +kernel⟩
theorem cw_X11_strokeNow : Cond.code yX11_strokeNow cX11_strokeNow 6 (some .int) ∈ zq_ws := zq_in (zq_t4 (List.mem_of_getElem? (i := 36) rfl)) rfl
theorem mv_X11_222 : zq_MV RX11 222 11 yX11_strokeNow 3 := ⟨zq_in (zq_t4 (List.mem_of_getElem? (i := 33) rfl)) rfl, zq_in (zq_t4 (List.mem_of_getElem? (i := 35) rfl)) rfl, ⟨_, rfl, zq_in (zq_ts (List.mem_of_getElem? (i := 29) rfl)) rfl⟩, mi_X11_strokeNow⟩
theorem mi_X11_settle : zq_MI yX11_settle 1 := ⟨zq_in (zq_t1 (List.mem_of_getElem? (i := 1) rfl)) rfl, ⟨by decide, by decide⟩, by decide +kernel⟩
theorem cw_X11_settle : Cond.code yX11_settle cX11_settle 2 (some .int) ∈ zq_ws := zq_in (zq_t4 (List.mem_of_getElem? (i := 90) rfl)) rfl
theorem mv_X11_226 : zq_MV RX11 226 11 yX11_settle 1 := ⟨zq_in (zq_t4 (List.mem_of_getElem? (i := 87) rfl)) rfl, zq_in (zq_t4 (List.mem_of_getElem? (i := 89) rfl)) rfl, ⟨_, rfl, zq_in (zq_ts (List.mem_of_getElem? (i := 33) rfl)) rfl⟩, mi_X11_settle⟩
theorem mi_X11_swapNow : zq_MI yX11_swapNow 1 := ⟨zq_in (zq_t1 (List.mem_of_getElem? (i := 1) rfl)) rfl, ⟨by decide, by decide⟩, by decide +kernel⟩
theorem cw_X11_swapNow : Cond.code yX11_swapNow cX11_swapNow 4 (some .int) ∈ zq_ws := zq_in (zq_t4 (List.mem_of_getElem? (i := 53) rfl)) rfl
theorem mv_X11_229 : zq_MV RX11 229 11 yX11_swapNow 1 := ⟨zq_in (zq_t4 (List.mem_of_getElem? (i := 50) rfl)) rfl, zq_in (zq_t4 (List.mem_of_getElem? (i := 52) rfl)) rfl, ⟨_, rfl, zq_in (zq_ts (List.mem_of_getElem? (i := 30) rfl)) rfl⟩, mi_X11_swapNow⟩
theorem mi_X11_decreeNow : zq_MI yX11_decreeNow 1 := ⟨zq_in (zq_t1 (List.mem_of_getElem? (i := 1) rfl)) rfl, ⟨by decide, by decide⟩, by decide +kernel⟩
theorem cw_X11_decreeNow : Cond.code yX11_decreeNow cX11_decreeNow 2 (some .int) ∈ zq_ws := zq_in (zq_t4 (List.mem_of_getElem? (i := 61) rfl)) rfl
theorem mv_X11_232 : zq_MV RX11 232 11 yX11_decreeNow 1 := ⟨zq_in (zq_t4 (List.mem_of_getElem? (i := 58) rfl)) rfl, zq_in (zq_t4 (List.mem_of_getElem? (i := 60) rfl)) rfl, ⟨_, rfl, zq_in (zq_ts (List.mem_of_getElem? (i := 31) rfl)) rfl⟩, mi_X11_decreeNow⟩
theorem mi_X11_passNow : zq_MI yX11_passNow 0 := ⟨zq_in (zq_t1 (List.mem_of_getElem? (i := 1) rfl)) rfl, ⟨by decide, by decide⟩, by decide +kernel⟩
theorem cw_X11_passNow : Cond.code yX11_passNow cX11_passNow 1 (some .int) ∈ zq_ws := zq_in (zq_t4 (List.mem_of_getElem? (i := 69) rfl)) rfl
theorem mv_X11_235 : zq_MV RX11 235 11 yX11_passNow 0 := ⟨zq_in (zq_t4 (List.mem_of_getElem? (i := 66) rfl)) rfl, zq_in (zq_t4 (List.mem_of_getElem? (i := 68) rfl)) rfl, ⟨_, rfl, zq_in (zq_ts (List.mem_of_getElem? (i := 32) rfl)) rfl⟩, mi_X11_passNow⟩
theorem fl_X11_238 : zq_FL RX11 238 4 0 := ⟨_, _, _, rfl, by decide, zq_in (zq_t1 (List.mem_of_getElem? (i := 108) rfl)) rfl⟩
theorem pl_X11_238 (nm : String) : zq_PL RX11 nm 238 4 0 := ⟨_, _, _, rfl, by decide, zq_in (zq_t1 (List.mem_of_getElem? (i := 108) rfl)) rfl, Or.inl rfl⟩
theorem mi_X4_take : zq_MI yX4_take 0 := ⟨zq_in (zq_t1 (List.mem_of_getElem? (i := 3) rfl)) rfl, ⟨by decide, by decide⟩, by decide +kernel⟩
theorem cw_X4_take : Cond.code yX4_take cX4_take 1 (some .int) ∈ zq_ws := zq_in (zq_t4 (List.mem_of_getElem? (i := 110) rfl)) rfl
theorem mv_X11_239 : zq_MV RX11 239 4 yX4_take 0 := ⟨zq_in (zq_t4 (List.mem_of_getElem? (i := 107) rfl)) rfl, zq_in (zq_t4 (List.mem_of_getElem? (i := 108) rfl)) rfl, ⟨_, rfl, zq_in (zq_t4 (List.mem_of_getElem? (i := 109) rfl)) rfl⟩, mi_X4_take⟩
theorem mi_X4_kindOf : zq_MI yX4_kindOf 1 := ⟨zq_in (zq_t1 (List.mem_of_getElem? (i := 3) rfl)) rfl, ⟨by decide, by decide⟩, by decide +kernel⟩
theorem cw_X4_kindOf : Cond.code yX4_kindOf cX4_kindOf 1 (some .int) ∈ zq_ws := zq_in (zq_t4 (List.mem_of_getElem? (i := 113) rfl)) rfl
theorem ms_X11_242 : zq_MS RX11 242 yX4_kindOf 1 := ⟨Or.inl (zq_in (zq_t4 (List.mem_of_getElem? (i := 111) rfl)) rfl), zq_in (zq_t4 (List.mem_of_getElem? (i := 112) rfl)) rfl, mi_X4_kindOf⟩
theorem mi_X4_firstOf : zq_MI yX4_firstOf 1 := ⟨zq_in (zq_t1 (List.mem_of_getElem? (i := 3) rfl)) rfl, ⟨by decide, by decide⟩, by decide +kernel⟩
theorem cw_X4_firstOf : Cond.code yX4_firstOf cX4_firstOf 1 (some .int) ∈ zq_ws := zq_in (zq_t4 (List.mem_of_getElem? (i := 116) rfl)) rfl
theorem ms_X11_245 : zq_MS RX11 245 yX4_firstOf 1 := ⟨Or.inl (zq_in (zq_t4 (List.mem_of_getElem? (i := 114) rfl)) rfl), zq_in (zq_t4 (List.mem_of_getElem? (i := 115) rfl)) rfl, mi_X4_firstOf⟩
theorem mi_X4_secondOf : zq_MI yX4_secondOf 1 := ⟨zq_in (zq_t1 (List.mem_of_getElem? (i := 3) rfl)) rfl, ⟨by decide, by decide⟩, by decide +kernel⟩
theorem cw_X4_secondOf : Cond.code yX4_secondOf cX4_secondOf 1 (some .int) ∈ zq_ws := zq_in (zq_t4 (List.mem_of_getElem? (i := 119) rfl)) rfl
theorem ms_X11_248 : zq_MS RX11 248 yX4_secondOf 1 := ⟨Or.inl (zq_in (zq_t4 (List.mem_of_getElem? (i := 117) rfl)) rfl), zq_in (zq_t4 (List.mem_of_getElem? (i := 118) rfl)) rfl, mi_X4_secondOf⟩
theorem mi_X4_thirdOf : zq_MI yX4_thirdOf 1 := ⟨zq_in (zq_t1 (List.mem_of_getElem? (i := 3) rfl)) rfl, ⟨by decide, by decide⟩, by decide +kernel⟩
theorem cw_X4_thirdOf : Cond.code yX4_thirdOf cX4_thirdOf 1 (some .int) ∈ zq_ws := zq_in (zq_t4 (List.mem_of_getElem? (i := 122) rfl)) rfl
theorem ms_X11_251 : zq_MS RX11 251 yX4_thirdOf 1 := ⟨Or.inl (zq_in (zq_t4 (List.mem_of_getElem? (i := 120) rfl)) rfl), zq_in (zq_t4 (List.mem_of_getElem? (i := 121) rfl)) rfl, mi_X4_thirdOf⟩
theorem mi_X7_write : zq_MI yX7_write 3 := ⟨zq_in (zq_t1 (List.mem_of_getElem? (i := 2) rfl)) rfl, ⟨by decide, by decide⟩, by decide +kernel⟩
theorem cw_X7_write : Cond.code yX7_write cX7_write 4 none ∈ zq_ws := zq_in (zq_t4 (List.mem_of_getElem? (i := 40) rfl)) rfl
theorem mv_X11_254 : zq_MV RX11 254 7 yX7_write 3 := ⟨zq_in (zq_t4 (List.mem_of_getElem? (i := 37) rfl)) rfl, zq_in (zq_t4 (List.mem_of_getElem? (i := 38) rfl)) rfl, ⟨_, rfl, zq_in (zq_t4 (List.mem_of_getElem? (i := 39) rfl)) rfl⟩, mi_X7_write⟩
theorem mi_X7_exchange : zq_MI yX7_exchange 1 := ⟨zq_in (zq_t1 (List.mem_of_getElem? (i := 2) rfl)) rfl, ⟨by decide, by decide⟩, by decide +kernel⟩
theorem cw_X7_exchange : Cond.code yX7_exchange cX7_exchange 4 none ∈ zq_ws := zq_in (zq_t4 (List.mem_of_getElem? (i := 57) rfl)) rfl
theorem mv_X11_257 : zq_MV RX11 257 7 yX7_exchange 1 := ⟨zq_in (zq_t4 (List.mem_of_getElem? (i := 54) rfl)) rfl, zq_in (zq_t4 (List.mem_of_getElem? (i := 55) rfl)) rfl, ⟨_, rfl, zq_in (zq_t4 (List.mem_of_getElem? (i := 56) rfl)) rfl⟩, mi_X7_exchange⟩
theorem mi_X7_turn : zq_MI yX7_turn 1 := ⟨zq_in (zq_t1 (List.mem_of_getElem? (i := 2) rfl)) rfl, ⟨by decide, by decide⟩, by decide +kernel⟩
theorem cw_X7_turn : Cond.code yX7_turn cX7_turn 4 none ∈ zq_ws := zq_in (zq_t4 (List.mem_of_getElem? (i := 65) rfl)) rfl
theorem mv_X11_260 : zq_MV RX11 260 7 yX7_turn 1 := ⟨zq_in (zq_t4 (List.mem_of_getElem? (i := 62) rfl)) rfl, zq_in (zq_t4 (List.mem_of_getElem? (i := 63) rfl)) rfl, ⟨_, rfl, zq_in (zq_t4 (List.mem_of_getElem? (i := 64) rfl)) rfl⟩, mi_X7_turn⟩
theorem mi_X6_differ : zq_MI yX6_differ 2 := ⟨zq_in (zq_t1 (List.mem_of_getElem? (i := 11) rfl)) rfl, ⟨by decide, by decide⟩, by decide +kernel⟩
theorem cw_X6_differ : Cond.code yX6_differ cX6_differ 7 (some .int) ∈ zq_ws := zq_in (zq_t4 (List.mem_of_getElem? (i := 19) rfl)) rfl
theorem ms_X11_263 : zq_MS RX11 263 yX6_differ 2 := ⟨Or.inl (zq_in (zq_t4 (List.mem_of_getElem? (i := 127) rfl)) rfl), zq_in (zq_t4 (List.mem_of_getElem? (i := 18) rfl)) rfl, mi_X6_differ⟩
theorem fl_X11_266 : zq_FL RX11 266 7 6 := ⟨_, _, _, rfl, by decide, zq_in (zq_t1 (List.mem_of_getElem? (i := 55) rfl)) rfl⟩
theorem mi_X6_isMet : zq_MI yX6_isMet 2 := ⟨zq_in (zq_t1 (List.mem_of_getElem? (i := 11) rfl)) rfl, ⟨by decide, by decide⟩, by decide +kernel⟩
theorem cw_X6_isMet : Cond.code yX6_isMet cX6_isMet 4 (some .boolean) ∈ zq_ws := zq_in (zq_t4 (List.mem_of_getElem? (i := 22) rfl)) rfl
theorem ms_X11_269 : zq_MS RX11 269 yX6_isMet 2 := ⟨Or.inl (zq_in (zq_t4 (List.mem_of_getElem? (i := 128) rfl)) rfl), zq_in (zq_t4 (List.mem_of_getElem? (i := 21) rfl)) rfl, mi_X6_isMet⟩
theorem mi_X7_breakAt : zq_MI yX7_breakAt 1 := ⟨zq_in (zq_t1 (List.mem_of_getElem? (i := 2) rfl)) rfl, ⟨by decide, by decide⟩, by decide +kernel⟩
theorem cw_X7_breakAt : Cond.code yX7_breakAt cX7_breakAt 4 (some .int) ∈ zq_ws := zq_in (zq_t4 (List.mem_of_getElem? (i := 7) rfl)) rfl
theorem mv_X11_273 : zq_MV RX11 273 7 yX7_breakAt 1 := ⟨zq_in (zq_t4 (List.mem_of_getElem? (i := 4) rfl)) rfl, zq_in (zq_t4 (List.mem_of_getElem? (i := 5) rfl)) rfl, ⟨_, rfl, zq_in (zq_t4 (List.mem_of_getElem? (i := 6) rfl)) rfl⟩, mi_X7_breakAt⟩
theorem mi_X7_inversions : zq_MI yX7_inversions 0 := ⟨zq_in (zq_t1 (List.mem_of_getElem? (i := 2) rfl)) rfl, ⟨by decide, by decide⟩, by decide +kernel⟩
theorem cw_X7_inversions : Cond.code yX7_inversions cX7_inversions 5 (some .int) ∈ zq_ws := zq_in (zq_t4 (List.mem_of_getElem? (i := 26) rfl)) rfl
theorem mv_X11_276 : zq_MV RX11 276 7 yX7_inversions 0 := ⟨zq_in (zq_t4 (List.mem_of_getElem? (i := 23) rfl)) rfl, zq_in (zq_t4 (List.mem_of_getElem? (i := 24) rfl)) rfl, ⟨_, rfl, zq_in (zq_t4 (List.mem_of_getElem? (i := 25) rfl)) rfl⟩, mi_X7_inversions⟩
theorem mi_X7_fewestOut : zq_MI yX7_fewestOut 0 := ⟨zq_in (zq_t1 (List.mem_of_getElem? (i := 2) rfl)) rfl, ⟨by decide, by decide⟩, by decide +kernel⟩
theorem cw_X7_fewestOut : Cond.code yX7_fewestOut cX7_fewestOut 5 (some .int) ∈ zq_ws := zq_in (zq_t4 (List.mem_of_getElem? (i := 144) rfl)) rfl
theorem mv_X11_279 : zq_MV RX11 279 7 yX7_fewestOut 0 := ⟨zq_in (zq_t4 (List.mem_of_getElem? (i := 141) rfl)) rfl, zq_in (zq_t4 (List.mem_of_getElem? (i := 142) rfl)) rfl, ⟨_, rfl, zq_in (zq_t4 (List.mem_of_getElem? (i := 143) rfl)) rfl⟩, mi_X7_fewestOut⟩
theorem mi_J6_bitCount_0f7a4 : zq_MI yJ6_bitCount_0f7a4 1 := ⟨zq_in (zq_t1 (List.mem_of_getElem? (i := 21) rfl)) rfl, ⟨by decide, by decide⟩, by decide +kernel⟩
theorem cw_J6_bitCount_0f7a4 : Cond.code yJ6_bitCount_0f7a4 cJ6_bitCount_0f7a4 1 (some .int) ∈ zq_ws := zq_in (zq_t4 (List.mem_of_getElem? (i := 147) rfl)) rfl
theorem ms_X11_282 : zq_MS RX11 282 yJ6_bitCount_0f7a4 1 := ⟨Or.inl (zq_in (zq_t4 (List.mem_of_getElem? (i := 155) rfl)) rfl), zq_in (zq_t4 (List.mem_of_getElem? (i := 146) rfl)) rfl, mi_J6_bitCount_0f7a4⟩
theorem mi_X0_clear : zq_MI yX0_clear 0 := ⟨zq_in (zq_t1 (List.mem_of_getElem? (i := 7) rfl)) rfl, ⟨by decide, by decide⟩, by decide +kernel⟩
theorem cw_X0_clear : Cond.code yX0_clear cX0_clear 1 none ∈ zq_ws := zq_in (zq_t4 (List.mem_of_getElem? (i := 163) rfl)) rfl
theorem mv_X11_287 : zq_MV RX11 287 0 yX0_clear 0 := ⟨zq_in (zq_t4 (List.mem_of_getElem? (i := 160) rfl)) rfl, zq_in (zq_t4 (List.mem_of_getElem? (i := 161) rfl)) rfl, ⟨_, rfl, zq_in (zq_t4 (List.mem_of_getElem? (i := 162) rfl)) rfl⟩, mi_X0_clear⟩
theorem fl_X11_288 : zq_FL RX11 288 7 0 := ⟨_, _, _, rfl, by decide, zq_in (zq_t1 (List.mem_of_getElem? (i := 42) rfl)) rfl⟩
theorem pl_X11_288 (nm : String) : zq_PL RX11 nm 288 7 0 := ⟨_, _, _, rfl, by decide, zq_in (zq_t1 (List.mem_of_getElem? (i := 42) rfl)) rfl, Or.inl rfl⟩
theorem mi_X7_nameAt : zq_MI yX7_nameAt 1 := ⟨zq_in (zq_t1 (List.mem_of_getElem? (i := 2) rfl)) rfl, ⟨by decide, by decide⟩, by decide +kernel⟩
theorem cw_X7_nameAt : Cond.code yX7_nameAt cX7_nameAt 2 (some .int) ∈ zq_ws := zq_in (zq_t4 (List.mem_of_getElem? (i := 11) rfl)) rfl
theorem mv_X11_291 : zq_MV RX11 291 7 yX7_nameAt 1 := ⟨zq_in (zq_t4 (List.mem_of_getElem? (i := 164) rfl)) rfl, zq_in (zq_t4 (List.mem_of_getElem? (i := 9) rfl)) rfl, ⟨_, rfl, zq_in (zq_t4 (List.mem_of_getElem? (i := 10) rfl)) rfl⟩, mi_X7_nameAt⟩
theorem mi_X0_demand : zq_MI yX0_demand 1 := ⟨zq_in (zq_t1 (List.mem_of_getElem? (i := 7) rfl)) rfl, ⟨by decide, by decide⟩, by decide +kernel⟩
theorem cw_X0_demand : Cond.code yX0_demand cX0_demand 2 none ∈ zq_ws := zq_in (zq_t4 (List.mem_of_getElem? (i := 168) rfl)) rfl
theorem mv_X11_294 : zq_MV RX11 294 0 yX0_demand 1 := ⟨zq_in (zq_t4 (List.mem_of_getElem? (i := 165) rfl)) rfl, zq_in (zq_t4 (List.mem_of_getElem? (i := 166) rfl)) rfl, ⟨_, rfl, zq_in (zq_t4 (List.mem_of_getElem? (i := 167) rfl)) rfl⟩, mi_X0_demand⟩
theorem mi_X0_found : zq_MI yX0_found 1 := ⟨zq_in (zq_t1 (List.mem_of_getElem? (i := 7) rfl)) rfl, ⟨by decide, by decide⟩, by decide +kernel⟩
theorem cw_X0_found : Cond.code yX0_found cX0_found 5 (some .int) ∈ zq_ws := zq_in (zq_t4 (List.mem_of_getElem? (i := 172) rfl)) rfl
theorem mv_X11_297 : zq_MV RX11 297 0 yX0_found 1 := ⟨zq_in (zq_t4 (List.mem_of_getElem? (i := 169) rfl)) rfl, zq_in (zq_t4 (List.mem_of_getElem? (i := 170) rfl)) rfl, ⟨_, rfl, zq_in (zq_t4 (List.mem_of_getElem? (i := 171) rfl)) rfl⟩, mi_X0_found⟩
theorem fl_X11_300 : zq_FL RX11 300 7 8 := ⟨_, _, _, rfl, by decide, zq_in (zq_t1 (List.mem_of_getElem? (i := 60) rfl)) rfl⟩
theorem pl_X11_300 (nm : String) : zq_PL RX11 nm 300 7 8 := ⟨_, _, _, rfl, by decide, zq_in (zq_t1 (List.mem_of_getElem? (i := 60) rfl)) rfl, Or.inl rfl⟩
theorem mi_X7_hear : zq_MI yX7_hear 2 := ⟨zq_in (zq_t1 (List.mem_of_getElem? (i := 2) rfl)) rfl, ⟨by decide, by decide⟩, by decide +kernel⟩
theorem cw_X7_hear : Cond.code yX7_hear cX7_hear 3 (some .int) ∈ zq_ws := zq_in (zq_t4 (List.mem_of_getElem? (i := 191) rfl)) rfl
theorem mv_X11_303 : zq_MV RX11 303 7 yX7_hear 2 := ⟨zq_in (zq_t4 (List.mem_of_getElem? (i := 188) rfl)) rfl, zq_in (zq_t4 (List.mem_of_getElem? (i := 189) rfl)) rfl, ⟨_, rfl, zq_in (zq_t4 (List.mem_of_getElem? (i := 190) rfl)) rfl⟩, mi_X7_hear⟩
theorem mi_X11_demandHeard : zq_MI yX11_demandHeard 0 := ⟨zq_in (zq_t1 (List.mem_of_getElem? (i := 1) rfl)) rfl, ⟨by decide, by decide⟩, by decide +kernel⟩
theorem cw_X11_demandHeard : Cond.code yX11_demandHeard cX11_demandHeard 2 none ∈ zq_ws := zq_in (zq_t4 (List.mem_of_getElem? (i := 203) rfl)) rfl
theorem mv_X11_306 : zq_MV RX11 306 11 yX11_demandHeard 0 := ⟨zq_in (zq_t4 (List.mem_of_getElem? (i := 200) rfl)) rfl, zq_in (zq_t4 (List.mem_of_getElem? (i := 202) rfl)) rfl, ⟨_, rfl, zq_in (zq_ts (List.mem_of_getElem? (i := 37) rfl)) rfl⟩, mi_X11_demandHeard⟩
theorem mi_X0_bestTwo : zq_MI yX0_bestTwo 2 := ⟨zq_in (zq_t1 (List.mem_of_getElem? (i := 7) rfl)) rfl, ⟨by decide, by decide⟩, by decide +kernel⟩
theorem cw_X0_bestTwo : Cond.code yX0_bestTwo cX0_bestTwo 10 (some .int) ∈ zq_ws := zq_in (zq_t4 (List.mem_of_getElem? (i := 212) rfl)) rfl
theorem mv_X11_309 : zq_MV RX11 309 0 yX0_bestTwo 2 := ⟨zq_in (zq_t4 (List.mem_of_getElem? (i := 209) rfl)) rfl, zq_in (zq_t4 (List.mem_of_getElem? (i := 210) rfl)) rfl, ⟨_, rfl, zq_in (zq_t4 (List.mem_of_getElem? (i := 211) rfl)) rfl⟩, mi_X0_bestTwo⟩
theorem mi_X5_leastCost : zq_MI yX5_leastCost 3 := ⟨zq_in (zq_t1 (List.mem_of_getElem? (i := 8) rfl)) rfl, ⟨by decide, by decide⟩, by decide +kernel⟩
theorem cw_X5_leastCost : Cond.code yX5_leastCost cX5_leastCost 5 (some .int) ∈ zq_ws := zq_in (zq_t4 (List.mem_of_getElem? (i := 228) rfl)) rfl
theorem mv_X11_313 : zq_MV RX11 313 5 yX5_leastCost 3 := ⟨zq_in (zq_t4 (List.mem_of_getElem? (i := 225) rfl)) rfl, zq_in (zq_t4 (List.mem_of_getElem? (i := 226) rfl)) rfl, ⟨_, rfl, zq_in (zq_t4 (List.mem_of_getElem? (i := 227) rfl)) rfl⟩, mi_X5_leastCost⟩
theorem mi_X5_nameFor : zq_MI yX5_nameFor 2 := ⟨zq_in (zq_t1 (List.mem_of_getElem? (i := 8) rfl)) rfl, ⟨by decide, by decide⟩, by decide +kernel⟩
theorem cw_X5_nameFor : Cond.code yX5_nameFor cX5_nameFor 7 (some .int) ∈ zq_ws := zq_in (zq_t5 (List.mem_of_getElem? (i := 17) rfl)) rfl
theorem mv_X11_317 : zq_MV RX11 317 5 yX5_nameFor 2 := ⟨zq_in (zq_t5 (List.mem_of_getElem? (i := 14) rfl)) rfl, zq_in (zq_t5 (List.mem_of_getElem? (i := 15) rfl)) rfl, ⟨_, rfl, zq_in (zq_t5 (List.mem_of_getElem? (i := 16) rfl)) rfl⟩, mi_X5_nameFor⟩
theorem mi_X7_lawOf : zq_MI yX7_lawOf 1 := ⟨zq_in (zq_t1 (List.mem_of_getElem? (i := 2) rfl)) rfl, ⟨by decide, by decide⟩, by decide +kernel⟩
theorem cw_X7_lawOf : Cond.code yX7_lawOf cX7_lawOf 2 (some (.object "LetterQuay$Text")) ∈ zq_ws := zq_in (zq_t2 (List.mem_of_getElem? (i := 99) rfl)) rfl
theorem mv_X11_320 : zq_MV RX11 320 7 yX7_lawOf 1 := ⟨zq_in (zq_t5 (List.mem_of_getElem? (i := 25) rfl)) rfl, zq_in (zq_t2 (List.mem_of_getElem? (i := 97) rfl)) rfl, ⟨_, rfl, zq_in (zq_t2 (List.mem_of_getElem? (i := 98) rfl)) rfl⟩, mi_X7_lawOf⟩
theorem mi_X7_toldAlong : zq_MI yX7_toldAlong 1 := ⟨zq_in (zq_t1 (List.mem_of_getElem? (i := 2) rfl)) rfl, ⟨by decide, by decide⟩, by decide +kernel⟩
theorem cw_X7_toldAlong : Cond.code yX7_toldAlong cX7_toldAlong 4 (some .int) ∈ zq_ws := zq_in (zq_t5 (List.mem_of_getElem? (i := 33) rfl)) rfl
theorem mv_X11_324 : zq_MV RX11 324 7 yX7_toldAlong 1 := ⟨zq_in (zq_t5 (List.mem_of_getElem? (i := 30) rfl)) rfl, zq_in (zq_t5 (List.mem_of_getElem? (i := 31) rfl)) rfl, ⟨_, rfl, zq_in (zq_t5 (List.mem_of_getElem? (i := 32) rfl)) rfl⟩, mi_X7_toldAlong⟩
theorem mi_X2_seek : zq_MI yX2_seek 1 := ⟨zq_in (zq_t1 (List.mem_of_getElem? (i := 9) rfl)) rfl, ⟨by decide, by decide⟩, by decide +kernel⟩
theorem cw_X2_seek : Cond.code yX2_seek cX2_seek 3 none ∈ zq_ws := zq_in (zq_t5 (List.mem_of_getElem? (i := 46) rfl)) rfl
theorem mv_X11_327 : zq_MV RX11 327 2 yX2_seek 1 := ⟨zq_in (zq_t5 (List.mem_of_getElem? (i := 43) rfl)) rfl, zq_in (zq_t5 (List.mem_of_getElem? (i := 44) rfl)) rfl, ⟨_, rfl, zq_in (zq_t5 (List.mem_of_getElem? (i := 45) rfl)) rfl⟩, mi_X2_seek⟩
theorem fl_X11_330 : zq_FL RX11 330 2 3 := ⟨_, _, _, rfl, by decide, zq_in (zq_t1 (List.mem_of_getElem? (i := 219) rfl)) rfl⟩
theorem pl_X11_330 (nm : String) : zq_PL RX11 nm 330 2 3 := ⟨_, _, _, rfl, by decide, zq_in (zq_t1 (List.mem_of_getElem? (i := 219) rfl)) rfl, Or.inl rfl⟩
theorem fl_X11_333 : zq_FL RX11 333 2 2 := ⟨_, _, _, rfl, by decide, zq_in (zq_t1 (List.mem_of_getElem? (i := 217) rfl)) rfl⟩
theorem kl_X11_336 : Cond.constantLong RX11 336 (-1) ∈ zq_ws := zq_in (zq_t5 (List.mem_of_getElem? (i := 70) rfl)) rfl
theorem kl_X11_338 : Cond.constantLong RX11 338 (1000000000000) ∈ zq_ws := zq_in (zq_t5 (List.mem_of_getElem? (i := 71) rfl)) rfl
theorem kl_X11_340 : Cond.constantLong RX11 340 (10) ∈ zq_ws := zq_in (zq_t5 (List.mem_of_getElem? (i := 72) rfl)) rfl
theorem kc_X11_342 : Cond.constant RX11 342 (1000000) ∈ zq_ws := zq_in (zq_t5 (List.mem_of_getElem? (i := 78) rfl)) rfl
theorem mi_X11_draw : zq_MI yX11_draw 1 := ⟨zq_in (zq_t1 (List.mem_of_getElem? (i := 1) rfl)) rfl, ⟨by decide, by decide⟩, by decide +kernel⟩
theorem cw_X11_draw : Cond.code yX11_draw cX11_draw 1 (some .int) ∈ zq_ws := zq_in (zq_t5 (List.mem_of_getElem? (i := 81) rfl)) rfl
theorem ms_X11_343 : zq_MS RX11 343 yX11_draw 1 := ⟨Or.inl (zq_in (zq_t5 (List.mem_of_getElem? (i := 79) rfl)) rfl), zq_in (zq_t5 (List.mem_of_getElem? (i := 80) rfl)) rfl, mi_X11_draw⟩
theorem mi_X11_drawnDeed : zq_MI yX11_drawnDeed 3 := ⟨zq_in (zq_t1 (List.mem_of_getElem? (i := 1) rfl)) rfl, ⟨by decide, by decide⟩, by decide +kernel⟩
theorem cw_X11_drawnDeed : Cond.code yX11_drawnDeed cX11_drawnDeed 4 none ∈ zq_ws := zq_in (zq_t5 (List.mem_of_getElem? (i := 88) rfl)) rfl
theorem mv_X11_346 : zq_MV RX11 346 11 yX11_drawnDeed 3 := ⟨zq_in (zq_t5 (List.mem_of_getElem? (i := 85) rfl)) rfl, zq_in (zq_t5 (List.mem_of_getElem? (i := 87) rfl)) rfl, ⟨_, rfl, zq_in (zq_ts (List.mem_of_getElem? (i := 46) rfl)) rfl⟩, mi_X11_drawnDeed⟩
theorem mi_X4_add : zq_MI yX4_add 4 := ⟨zq_in (zq_t1 (List.mem_of_getElem? (i := 3) rfl)) rfl, ⟨by decide, by decide⟩, by decide +kernel⟩
theorem cw_X4_add : Cond.code yX4_add cX4_add 5 none ∈ zq_ws := zq_in (zq_t4 (List.mem_of_getElem? (i := 49) rfl)) rfl
theorem mv_X11_349 : zq_MV RX11 349 4 yX4_add 4 := ⟨zq_in (zq_t4 (List.mem_of_getElem? (i := 46) rfl)) rfl, zq_in (zq_t4 (List.mem_of_getElem? (i := 47) rfl)) rfl, ⟨_, rfl, zq_in (zq_t4 (List.mem_of_getElem? (i := 48) rfl)) rfl⟩, mi_X4_add⟩
theorem fl_X11_352 : zq_FL RX11 352 1 1 := ⟨_, _, _, rfl, by decide, zq_in (zq_t3 (List.mem_of_getElem? (i := 101) rfl)) rfl⟩
theorem pl_X11_352 (nm : String) : zq_PL RX11 nm 352 1 1 := ⟨_, _, _, rfl, by decide, zq_in (zq_t3 (List.mem_of_getElem? (i := 101) rfl)) rfl, Or.inl rfl⟩
theorem mi_X11_fillOrderWords : zq_MI yX11_fillOrderWords 0 := ⟨zq_in (zq_t1 (List.mem_of_getElem? (i := 1) rfl)) rfl, ⟨by decide, by decide⟩, by decide +kernel⟩
theorem cw_X11_fillOrderWords : Cond.code yX11_fillOrderWords cX11_fillOrderWords 3 none ∈ zq_ws := zq_in (zq_t4 (List.mem_of_getElem? (i := 3) rfl)) rfl
theorem mv_X11_357 : zq_MV RX11 357 11 yX11_fillOrderWords 0 := ⟨zq_in (zq_t4 (List.mem_of_getElem? (i := 0) rfl)) rfl, zq_in (zq_t4 (List.mem_of_getElem? (i := 2) rfl)) rfl, ⟨_, rfl, zq_in (zq_ts (List.mem_of_getElem? (i := 26) rfl)) rfl⟩, mi_X11_fillOrderWords⟩
theorem fl_X11_360 : zq_FL RX11 360 3 0 := ⟨_, _, _, rfl, by decide, zq_in (zq_t1 (List.mem_of_getElem? (i := 166) rfl)) rfl⟩
theorem fl_X11_364 : zq_FL RX11 364 1 5 := ⟨_, _, _, rfl, by decide, zq_in (zq_t3 (List.mem_of_getElem? (i := 115) rfl)) rfl⟩
theorem pl_X11_364 (nm : String) : zq_PL RX11 nm 364 1 5 := ⟨_, _, _, rfl, by decide, zq_in (zq_t3 (List.mem_of_getElem? (i := 115) rfl)) rfl, Or.inl rfl⟩
theorem mi_X9_reckon : zq_MI yX9_reckon 4 := ⟨zq_in (zq_t1 (List.mem_of_getElem? (i := 6) rfl)) rfl, ⟨by decide, by decide⟩, by decide +kernel⟩
theorem cw_X9_reckon : Cond.code yX9_reckon cX9_reckon 12 (some .int) ∈ zq_ws := zq_in (zq_t2 (List.mem_of_getElem? (i := 130) rfl)) rfl
theorem mv_X11_367 : zq_MV RX11 367 9 yX9_reckon 4 := ⟨zq_in (zq_t4 (List.mem_of_getElem? (i := 27) rfl)) rfl, zq_in (zq_t2 (List.mem_of_getElem? (i := 128) rfl)) rfl, ⟨_, rfl, zq_in (zq_t2 (List.mem_of_getElem? (i := 129) rfl)) rfl⟩, mi_X9_reckon⟩
theorem mi_X11_runDeed : zq_MI yX11_runDeed 2 := ⟨zq_in (zq_t1 (List.mem_of_getElem? (i := 1) rfl)) rfl, ⟨by decide, by decide⟩, by decide +kernel⟩
theorem cw_X11_runDeed : Cond.code yX11_runDeed cX11_runDeed 8 (some .int) ∈ zq_ws := zq_in (zq_t4 (List.mem_of_getElem? (i := 31) rfl)) rfl
theorem mv_X11_373 : zq_MV RX11 373 11 yX11_runDeed 2 := ⟨zq_in (zq_t4 (List.mem_of_getElem? (i := 28) rfl)) rfl, zq_in (zq_t4 (List.mem_of_getElem? (i := 30) rfl)) rfl, ⟨_, rfl, zq_in (zq_ts (List.mem_of_getElem? (i := 28) rfl)) rfl⟩, mi_X11_runDeed⟩
theorem fl_X11_377 : zq_FL RX11 377 1 2 := ⟨_, _, _, rfl, by decide, zq_in (zq_t3 (List.mem_of_getElem? (i := 105) rfl)) rfl⟩
theorem pl_X11_377 (nm : String) : zq_PL RX11 nm 377 1 2 := ⟨_, _, _, rfl, by decide, zq_in (zq_t3 (List.mem_of_getElem? (i := 105) rfl)) rfl, Or.inl rfl⟩
theorem fl_X11_380 : zq_FL RX11 380 1 3 := ⟨_, _, _, rfl, by decide, zq_in (zq_t3 (List.mem_of_getElem? (i := 108) rfl)) rfl⟩
theorem pl_X11_380 (nm : String) : zq_PL RX11 nm 380 1 3 := ⟨_, _, _, rfl, by decide, zq_in (zq_t3 (List.mem_of_getElem? (i := 108) rfl)) rfl, Or.inl rfl⟩
theorem fl_X11_383 : zq_FL RX11 383 1 4 := ⟨_, _, _, rfl, by decide, zq_in (zq_t3 (List.mem_of_getElem? (i := 111) rfl)) rfl⟩
theorem pl_X11_383 (nm : String) : zq_PL RX11 nm 383 1 4 := ⟨_, _, _, rfl, by decide, zq_in (zq_t3 (List.mem_of_getElem? (i := 111) rfl)) rfl, Or.inl rfl⟩
theorem kc_X11_386 : Cond.constant RX11 386 (-2000000000) ∈ zq_ws := zq_in (zq_t4 (List.mem_of_getElem? (i := 32) rfl)) rfl
theorem fl_X11_387 : zq_FL RX11 387 1 0 := ⟨_, _, _, rfl, by decide, zq_in (zq_t3 (List.mem_of_getElem? (i := 98) rfl)) rfl⟩
theorem pl_X11_387 (nm : String) : zq_PL RX11 nm 387 1 0 := ⟨_, _, _, rfl, by decide, zq_in (zq_t3 (List.mem_of_getElem? (i := 98) rfl)) rfl, Or.inl rfl⟩
theorem fl_X11_390 : zq_FL RX11 390 7 9 := ⟨_, _, _, rfl, by decide, zq_in (zq_t1 (List.mem_of_getElem? (i := 62) rfl)) rfl⟩
theorem mi_X7_nameOf : zq_MI yX7_nameOf 1 := ⟨zq_in (zq_t1 (List.mem_of_getElem? (i := 2) rfl)) rfl, ⟨by decide, by decide⟩, by decide +kernel⟩
theorem cw_X7_nameOf : Cond.code yX7_nameOf cX7_nameOf 2 (some .int) ∈ zq_ws := zq_in (zq_t2 (List.mem_of_getElem? (i := 116) rfl)) rfl
theorem mv_X11_393 : zq_MV RX11 393 7 yX7_nameOf 1 := ⟨zq_in (zq_t4 (List.mem_of_getElem? (i := 204) rfl)) rfl, zq_in (zq_t2 (List.mem_of_getElem? (i := 114) rfl)) rfl, ⟨_, rfl, zq_in (zq_t2 (List.mem_of_getElem? (i := 115) rfl)) rfl⟩, mi_X7_nameOf⟩
theorem fl_X11_396 : zq_FL RX11 396 7 10 := ⟨_, _, _, rfl, by decide, zq_in (zq_t1 (List.mem_of_getElem? (i := 64) rfl)) rfl⟩
theorem kl_X11_399 : Cond.constantLong RX11 399 (1103) ∈ zq_ws := zq_in (zq_t5 (List.mem_of_getElem? (i := 82) rfl)) rfl
theorem kl_X11_401 : Cond.constantLong RX11 401 (12345) ∈ zq_ws := zq_in (zq_t5 (List.mem_of_getElem? (i := 83) rfl)) rfl
theorem kl_X11_403 : Cond.constantLong RX11 403 (1000003) ∈ zq_ws := zq_in (zq_t5 (List.mem_of_getElem? (i := 84) rfl)) rfl
theorem oi_X0_3 : Cond.methodLink RX0 3 Lib.objectInit ∈ zq_ws := zq_in (zq_t1 (List.mem_of_getElem? (i := 178) rfl)) rfl
theorem fl_X0_9 : zq_FL RX0 9 0 0 := ⟨_, _, _, rfl, by decide, zq_in (zq_t1 (List.mem_of_getElem? (i := 179) rfl)) rfl⟩
theorem pl_X0_9 : zq_PL RX0 "<init>" 9 0 0 := ⟨_, _, _, rfl, by decide, zq_in (zq_t1 (List.mem_of_getElem? (i := 179) rfl)) rfl, Or.inr ⟨rfl, rfl, rfl⟩⟩
theorem fl_X0_15 : zq_FL RX0 15 0 1 := ⟨_, _, _, rfl, by decide, zq_in (zq_t1 (List.mem_of_getElem? (i := 180) rfl)) rfl⟩
theorem pl_X0_15 : zq_PL RX0 "<init>" 15 0 1 := ⟨_, _, _, rfl, by decide, zq_in (zq_t1 (List.mem_of_getElem? (i := 180) rfl)) rfl, Or.inr ⟨rfl, rfl, rfl⟩⟩
theorem fl_X0_18 : zq_FL RX0 18 0 2 := ⟨_, _, _, rfl, by decide, zq_in (zq_t1 (List.mem_of_getElem? (i := 181) rfl)) rfl⟩
theorem pl_X0_18 (nm : String) : zq_PL RX0 nm 18 0 2 := ⟨_, _, _, rfl, by decide, zq_in (zq_t1 (List.mem_of_getElem? (i := 181) rfl)) rfl, Or.inl rfl⟩
theorem fl_X0_22 : zq_FL RX0 22 0 3 := ⟨_, _, _, rfl, by decide, zq_in (zq_t1 (List.mem_of_getElem? (i := 182) rfl)) rfl⟩
theorem pl_X0_22 : zq_PL RX0 "<init>" 22 0 3 := ⟨_, _, _, rfl, by decide, zq_in (zq_t1 (List.mem_of_getElem? (i := 182) rfl)) rfl, Or.inr ⟨rfl, rfl, rfl⟩⟩
theorem fl_X0_25 : zq_FL RX0 25 0 4 := ⟨_, _, _, rfl, by decide, zq_in (zq_t1 (List.mem_of_getElem? (i := 183) rfl)) rfl⟩
theorem pl_X0_25 : zq_PL RX0 "<init>" 25 0 4 := ⟨_, _, _, rfl, by decide, zq_in (zq_t1 (List.mem_of_getElem? (i := 183) rfl)) rfl, Or.inr ⟨rfl, rfl, rfl⟩⟩
theorem mi_X0_take : zq_MI yX0_take 1 := ⟨zq_in (zq_t1 (List.mem_of_getElem? (i := 7) rfl)) rfl, ⟨by decide, by decide⟩, by decide +kernel⟩
theorem cw_X0_take : Cond.code yX0_take cX0_take 8 (some .int) ∈ zq_ws := zq_in (zq_t4 (List.mem_of_getElem? (i := 176) rfl)) rfl
theorem mv_X0_28 : zq_MV RX0 28 0 yX0_take 1 := ⟨zq_in (zq_t4 (List.mem_of_getElem? (i := 173) rfl)) rfl, zq_in (zq_t4 (List.mem_of_getElem? (i := 175) rfl)) rfl, ⟨_, rfl, zq_in (zq_ts (List.mem_of_getElem? (i := 35) rfl)) rfl⟩, mi_X0_take⟩
theorem mi_X0_meetsAll : zq_MI yX0_meetsAll 0 := ⟨zq_in (zq_t1 (List.mem_of_getElem? (i := 7) rfl)) rfl, ⟨by decide, by decide⟩, by decide +kernel⟩
theorem cw_X0_meetsAll : Cond.code yX0_meetsAll cX0_meetsAll 2 (some .boolean) ∈ zq_ws := zq_in (zq_t4 (List.mem_of_getElem? (i := 182) rfl)) rfl
theorem mv_X0_32 : zq_MV RX0 32 0 yX0_meetsAll 0 := ⟨zq_in (zq_t4 (List.mem_of_getElem? (i := 179) rfl)) rfl, zq_in (zq_t4 (List.mem_of_getElem? (i := 181) rfl)) rfl, ⟨_, rfl, zq_in (zq_ts (List.mem_of_getElem? (i := 36) rfl)) rfl⟩, mi_X0_meetsAll⟩
theorem sl_X0_36 : zq_SL RX0 36 3 := ⟨⟨by decide, by decide⟩, Or.inl (zq_in (zq_t4 (List.mem_of_getElem? (i := 177) rfl)) rfl)⟩
theorem ms_X0_39 : zq_MS RX0 39 yX6_isMet 2 := ⟨Or.inl (zq_in (zq_t4 (List.mem_of_getElem? (i := 183) rfl)) rfl), zq_in (zq_t4 (List.mem_of_getElem? (i := 21) rfl)) rfl, mi_X6_isMet⟩
theorem mi_X0_tally : zq_MI yX0_tally 1 := ⟨zq_in (zq_t1 (List.mem_of_getElem? (i := 7) rfl)) rfl, ⟨by decide, by decide⟩, by decide +kernel⟩
theorem cw_X0_tally : Cond.code yX0_tally cX0_tally 6 (some .int) ∈ zq_ws := zq_in (zq_t4 (List.mem_of_getElem? (i := 216) rfl)) rfl
theorem mv_X0_45 : zq_MV RX0 45 0 yX0_tally 1 := ⟨zq_in (zq_t4 (List.mem_of_getElem? (i := 213) rfl)) rfl, zq_in (zq_t4 (List.mem_of_getElem? (i := 215) rfl)) rfl, ⟨_, rfl, zq_in (zq_ts (List.mem_of_getElem? (i := 38) rfl)) rfl⟩, mi_X0_tally⟩
theorem fl_X0_49 : zq_FL RX0 49 7 0 := ⟨_, _, _, rfl, by decide, zq_in (zq_t1 (List.mem_of_getElem? (i := 41) rfl)) rfl⟩
theorem pl_X0_49 (nm : String) : zq_PL RX0 nm 49 7 0 := ⟨_, _, _, rfl, by decide, zq_in (zq_t1 (List.mem_of_getElem? (i := 41) rfl)) rfl, Or.inl rfl⟩
theorem mi_J9_max_7cf53 : zq_MI yJ9_max_7cf53 2 := ⟨zq_in (zq_t1 (List.mem_of_getElem? (i := 12) rfl)) rfl, ⟨by decide, by decide⟩, by decide +kernel⟩
theorem cw_J9_max_7cf53 : Cond.code yJ9_max_7cf53 cJ9_max_7cf53 2 (some .int) ∈ zq_ws := zq_in (zq_t2 (List.mem_of_getElem? (i := 140) rfl)) rfl
theorem ms_X0_54 : zq_MS RX0 54 yJ9_max_7cf53 2 := ⟨Or.inl (zq_in (zq_t4 (List.mem_of_getElem? (i := 220) rfl)) rfl), zq_in (zq_t2 (List.mem_of_getElem? (i := 139) rfl)) rfl, mi_J9_max_7cf53⟩
theorem mv_X0_60 : zq_MV RX0 60 7 yX7_has 1 := ⟨zq_in (zq_t4 (List.mem_of_getElem? (i := 217) rfl)) rfl, zq_in (zq_t2 (List.mem_of_getElem? (i := 79) rfl)) rfl, ⟨_, rfl, zq_in (zq_t2 (List.mem_of_getElem? (i := 80) rfl)) rfl⟩, mi_X7_has⟩
theorem mv_X0_64 : zq_MV RX0 64 7 yX7_nameOf 1 := ⟨zq_in (zq_t4 (List.mem_of_getElem? (i := 218) rfl)) rfl, zq_in (zq_t2 (List.mem_of_getElem? (i := 114) rfl)) rfl, ⟨_, rfl, zq_in (zq_t2 (List.mem_of_getElem? (i := 115) rfl)) rfl⟩, mi_X7_nameOf⟩
theorem ms_X0_67 : zq_MS RX0 67 yX6_differ 2 := ⟨Or.inl (zq_in (zq_t4 (List.mem_of_getElem? (i := 219) rfl)) rfl), zq_in (zq_t4 (List.mem_of_getElem? (i := 18) rfl)) rfl, mi_X6_differ⟩
theorem oi_X1_3 : Cond.methodLink RX1 3 Lib.objectInit ∈ zq_ws := zq_in (zq_t3 (List.mem_of_getElem? (i := 94) rfl)) rfl
theorem fl_X1_9 : zq_FL RX1 9 1 0 := ⟨_, _, _, rfl, by decide, zq_in (zq_t3 (List.mem_of_getElem? (i := 95) rfl)) rfl⟩
theorem pl_X1_9 (nm : String) : zq_PL RX1 nm 9 1 0 := ⟨_, _, _, rfl, by decide, zq_in (zq_t3 (List.mem_of_getElem? (i := 95) rfl)) rfl, Or.inl rfl⟩
theorem fl_X1_15 : zq_FL RX1 15 1 1 := ⟨_, _, _, rfl, by decide, zq_in (zq_t3 (List.mem_of_getElem? (i := 99) rfl)) rfl⟩
theorem pl_X1_15 (nm : String) : zq_PL RX1 nm 15 1 1 := ⟨_, _, _, rfl, by decide, zq_in (zq_t3 (List.mem_of_getElem? (i := 99) rfl)) rfl, Or.inl rfl⟩
theorem fl_X1_18 : zq_FL RX1 18 1 2 := ⟨_, _, _, rfl, by decide, zq_in (zq_t3 (List.mem_of_getElem? (i := 102) rfl)) rfl⟩
theorem pl_X1_18 (nm : String) : zq_PL RX1 nm 18 1 2 := ⟨_, _, _, rfl, by decide, zq_in (zq_t3 (List.mem_of_getElem? (i := 102) rfl)) rfl, Or.inl rfl⟩
theorem fl_X1_21 : zq_FL RX1 21 1 3 := ⟨_, _, _, rfl, by decide, zq_in (zq_t3 (List.mem_of_getElem? (i := 106) rfl)) rfl⟩
theorem pl_X1_21 (nm : String) : zq_PL RX1 nm 21 1 3 := ⟨_, _, _, rfl, by decide, zq_in (zq_t3 (List.mem_of_getElem? (i := 106) rfl)) rfl, Or.inl rfl⟩
theorem fl_X1_24 : zq_FL RX1 24 1 4 := ⟨_, _, _, rfl, by decide, zq_in (zq_t3 (List.mem_of_getElem? (i := 109) rfl)) rfl⟩
theorem pl_X1_24 (nm : String) : zq_PL RX1 nm 24 1 4 := ⟨_, _, _, rfl, by decide, zq_in (zq_t3 (List.mem_of_getElem? (i := 109) rfl)) rfl, Or.inl rfl⟩
theorem fl_X1_27 : zq_FL RX1 27 1 5 := ⟨_, _, _, rfl, by decide, zq_in (zq_t3 (List.mem_of_getElem? (i := 112) rfl)) rfl⟩
theorem pl_X1_27 (nm : String) : zq_PL RX1 nm 27 1 5 := ⟨_, _, _, rfl, by decide, zq_in (zq_t3 (List.mem_of_getElem? (i := 112) rfl)) rfl, Or.inl rfl⟩
theorem oi_X2_3 : Cond.methodLink RX2 3 Lib.objectInit ∈ zq_ws := zq_in (zq_t1 (List.mem_of_getElem? (i := 213) rfl)) rfl
theorem fl_X2_9 : zq_FL RX2 9 2 0 := ⟨_, _, _, rfl, by decide, zq_in (zq_t1 (List.mem_of_getElem? (i := 214) rfl)) rfl⟩
theorem pl_X2_9 : zq_PL RX2 "<init>" 9 2 0 := ⟨_, _, _, rfl, by decide, zq_in (zq_t1 (List.mem_of_getElem? (i := 214) rfl)) rfl, Or.inr ⟨rfl, rfl, rfl⟩⟩
theorem fl_X2_15 : zq_FL RX2 15 2 1 := ⟨_, _, _, rfl, by decide, zq_in (zq_t1 (List.mem_of_getElem? (i := 215) rfl)) rfl⟩
theorem pl_X2_15 : zq_PL RX2 "<init>" 15 2 1 := ⟨_, _, _, rfl, by decide, zq_in (zq_t1 (List.mem_of_getElem? (i := 215) rfl)) rfl, Or.inr ⟨rfl, rfl, rfl⟩⟩
theorem fl_X2_18 : zq_FL RX2 18 2 2 := ⟨_, _, _, rfl, by decide, zq_in (zq_t1 (List.mem_of_getElem? (i := 216) rfl)) rfl⟩
theorem pl_X2_18 : zq_PL RX2 "<init>" 18 2 2 := ⟨_, _, _, rfl, by decide, zq_in (zq_t1 (List.mem_of_getElem? (i := 216) rfl)) rfl, Or.inr ⟨rfl, rfl, rfl⟩⟩
theorem fl_X2_21 : zq_FL RX2 21 2 3 := ⟨_, _, _, rfl, by decide, zq_in (zq_t1 (List.mem_of_getElem? (i := 218) rfl)) rfl⟩
theorem pl_X2_21 (nm : String) : zq_PL RX2 nm 21 2 3 := ⟨_, _, _, rfl, by decide, zq_in (zq_t1 (List.mem_of_getElem? (i := 218) rfl)) rfl, Or.inl rfl⟩
theorem mi_X2_tryFrom : zq_MI yX2_tryFrom 3 := ⟨zq_in (zq_t1 (List.mem_of_getElem? (i := 9) rfl)) rfl, ⟨by decide, by decide⟩, by decide +kernel⟩
theorem cw_X2_tryFrom : Cond.code yX2_tryFrom cX2_tryFrom 5 none ∈ zq_ws := zq_in (zq_t5 (List.mem_of_getElem? (i := 50) rfl)) rfl
theorem mv_X2_25 : zq_MV RX2 25 2 yX2_tryFrom 3 := ⟨zq_in (zq_t5 (List.mem_of_getElem? (i := 47) rfl)) rfl, zq_in (zq_t5 (List.mem_of_getElem? (i := 49) rfl)) rfl, ⟨_, rfl, zq_in (zq_ts (List.mem_of_getElem? (i := 42) rfl)) rfl⟩, mi_X2_tryFrom⟩
theorem mi_X2_unlike : zq_MI yX2_unlike 1 := ⟨zq_in (zq_t1 (List.mem_of_getElem? (i := 9) rfl)) rfl, ⟨by decide, by decide⟩, by decide +kernel⟩
theorem cw_X2_unlike : Cond.code yX2_unlike cX2_unlike 4 (some .int) ∈ zq_ws := zq_in (zq_t5 (List.mem_of_getElem? (i := 54) rfl)) rfl
theorem mv_X2_29 : zq_MV RX2 29 2 yX2_unlike 1 := ⟨zq_in (zq_t5 (List.mem_of_getElem? (i := 51) rfl)) rfl, zq_in (zq_t5 (List.mem_of_getElem? (i := 53) rfl)) rfl, ⟨_, rfl, zq_in (zq_ts (List.mem_of_getElem? (i := 43) rfl)) rfl⟩, mi_X2_unlike⟩
theorem fl_X2_33 : zq_FL RX2 33 7 0 := ⟨_, _, _, rfl, by decide, zq_in (zq_t1 (List.mem_of_getElem? (i := 40) rfl)) rfl⟩
theorem pl_X2_33 (nm : String) : zq_PL RX2 nm 33 7 0 := ⟨_, _, _, rfl, by decide, zq_in (zq_t1 (List.mem_of_getElem? (i := 40) rfl)) rfl, Or.inl rfl⟩
theorem mi_X2_keepIfClearer : zq_MI yX2_keepIfClearer 1 := ⟨zq_in (zq_t1 (List.mem_of_getElem? (i := 9) rfl)) rfl, ⟨by decide, by decide⟩, by decide +kernel⟩
theorem cw_X2_keepIfClearer : Cond.code yX2_keepIfClearer cX2_keepIfClearer 4 none ∈ zq_ws := zq_in (zq_t5 (List.mem_of_getElem? (i := 59) rfl)) rfl
theorem mv_X2_38 : zq_MV RX2 38 2 yX2_keepIfClearer 1 := ⟨zq_in (zq_t5 (List.mem_of_getElem? (i := 56) rfl)) rfl, zq_in (zq_t5 (List.mem_of_getElem? (i := 58) rfl)) rfl, ⟨_, rfl, zq_in (zq_ts (List.mem_of_getElem? (i := 44) rfl)) rfl⟩, mi_X2_keepIfClearer⟩
theorem mi_X2_tellOn : zq_MI yX2_tellOn 3 := ⟨zq_in (zq_t1 (List.mem_of_getElem? (i := 9) rfl)) rfl, ⟨by decide, by decide⟩, by decide +kernel⟩
theorem cw_X2_tellOn : Cond.code yX2_tellOn cX2_tellOn 6 none ∈ zq_ws := zq_in (zq_t5 (List.mem_of_getElem? (i := 64) rfl)) rfl
theorem mv_X2_42 : zq_MV RX2 42 2 yX2_tellOn 3 := ⟨zq_in (zq_t5 (List.mem_of_getElem? (i := 61) rfl)) rfl, zq_in (zq_t5 (List.mem_of_getElem? (i := 63) rfl)) rfl, ⟨_, rfl, zq_in (zq_ts (List.mem_of_getElem? (i := 45) rfl)) rfl⟩, mi_X2_tellOn⟩
theorem mv_X2_45 : zq_MV RX2 45 7 yX7_said 2 := ⟨zq_in (zq_t5 (List.mem_of_getElem? (i := 65) rfl)) rfl, zq_in (zq_t2 (List.mem_of_getElem? (i := 176) rfl)) rfl, ⟨_, rfl, zq_in (zq_t2 (List.mem_of_getElem? (i := 177) rfl)) rfl⟩, mi_X7_said⟩
theorem ms_X2_49 : zq_MS RX2 49 yJ6_bitCount_0f7a4 1 := ⟨Or.inl (zq_in (zq_t5 (List.mem_of_getElem? (i := 55) rfl)) rfl), zq_in (zq_t4 (List.mem_of_getElem? (i := 146) rfl)) rfl, mi_J6_bitCount_0f7a4⟩
theorem oi_X3_3 : Cond.methodLink RX3 3 Lib.objectInit ∈ zq_ws := zq_in (zq_t1 (List.mem_of_getElem? (i := 154) rfl)) rfl
theorem cl_X3_9 : Cond.classLink RX3 9 RX9 ∈ zq_ws := zq_in (zq_t1 (List.mem_of_getElem? (i := 155) rfl)) rfl
theorem mi_X9_init : zq_MI yX9_init 0 := ⟨zq_in (zq_t1 (List.mem_of_getElem? (i := 6) rfl)) rfl, ⟨by decide, by decide⟩, by decide +kernel⟩
theorem cw_X9_init : Cond.code yX9_init cX9_init 1 none ∈ zq_ws := zq_in (zq_t1 (List.mem_of_getElem? (i := 159) rfl)) rfl
theorem mc_X3_11 : zq_MC RX3 11 yX9_init 0 := ⟨Or.inr (by decide +kernel), rfl, zq_in (zq_t1 (List.mem_of_getElem? (i := 158) rfl)) rfl, mi_X9_init⟩
theorem fl_X3_12 : zq_FL RX3 12 3 0 := ⟨_, _, _, rfl, by decide, zq_in (zq_t1 (List.mem_of_getElem? (i := 165) rfl)) rfl⟩
theorem pl_X3_12 : zq_PL RX3 "<init>" 12 3 0 := ⟨_, _, _, rfl, by decide, zq_in (zq_t1 (List.mem_of_getElem? (i := 165) rfl)) rfl, Or.inr ⟨rfl, rfl, rfl⟩⟩
theorem fl_X3_18 : zq_FL RX3 18 3 1 := ⟨_, _, _, rfl, by decide, zq_in (zq_t1 (List.mem_of_getElem? (i := 167) rfl)) rfl⟩
theorem pl_X3_18 : zq_PL RX3 "<init>" 18 3 1 := ⟨_, _, _, rfl, by decide, zq_in (zq_t1 (List.mem_of_getElem? (i := 167) rfl)) rfl, Or.inr ⟨rfl, rfl, rfl⟩⟩
theorem mv_X3_22 : zq_MV RX3 22 7 yX7_nameOf 1 := ⟨zq_in (zq_t2 (List.mem_of_getElem? (i := 113) rfl)) rfl, zq_in (zq_t2 (List.mem_of_getElem? (i := 114) rfl)) rfl, ⟨_, rfl, zq_in (zq_t2 (List.mem_of_getElem? (i := 115) rfl)) rfl⟩, mi_X7_nameOf⟩
theorem ms_X3_28 : zq_MS RX3 28 yX6_letterOf 2 := ⟨Or.inl (zq_in (zq_t2 (List.mem_of_getElem? (i := 170) rfl)) rfl), zq_in (zq_t2 (List.mem_of_getElem? (i := 158) rfl)) rfl, mi_X6_letterOf⟩
theorem mi_X3_fillWords : zq_MI yX3_fillWords 5 := ⟨zq_in (zq_t1 (List.mem_of_getElem? (i := 5) rfl)) rfl, ⟨by decide, by decide⟩, by decide +kernel⟩
theorem cw_X3_fillWords : Cond.code yX3_fillWords cX3_fillWords 6 none ∈ zq_ws := zq_in (zq_t2 (List.mem_of_getElem? (i := 111) rfl)) rfl
theorem mv_X3_34 : zq_MV RX3 34 3 yX3_fillWords 5 := ⟨zq_in (zq_t2 (List.mem_of_getElem? (i := 108) rfl)) rfl, zq_in (zq_t2 (List.mem_of_getElem? (i := 110) rfl)) rfl, ⟨_, rfl, zq_in (zq_ts (List.mem_of_getElem? (i := 2) rfl)) rfl⟩, mi_X3_fillWords⟩
theorem mi_X3_lastTold : zq_MI yX3_lastTold 2 := ⟨zq_in (zq_t1 (List.mem_of_getElem? (i := 5) rfl)) rfl, ⟨by decide, by decide⟩, by decide +kernel⟩
theorem cw_X3_lastTold : Cond.code yX3_lastTold cX3_lastTold 6 (some .int) ∈ zq_ws := zq_in (zq_t2 (List.mem_of_getElem? (i := 123) rfl)) rfl
theorem mv_X3_38 : zq_MV RX3 38 3 yX3_lastTold 2 := ⟨zq_in (zq_t2 (List.mem_of_getElem? (i := 120) rfl)) rfl, zq_in (zq_t2 (List.mem_of_getElem? (i := 122) rfl)) rfl, ⟨_, rfl, zq_in (zq_ts (List.mem_of_getElem? (i := 3) rfl)) rfl⟩, mi_X3_lastTold⟩
theorem fl_X3_42 : zq_FL RX3 42 10 1 := ⟨_, _, _, rfl, by decide, zq_in (zq_t3 (List.mem_of_getElem? (i := 64) rfl)) rfl⟩
theorem pl_X3_42 (nm : String) : zq_PL RX3 nm 42 10 1 := ⟨_, _, _, rfl, by decide, zq_in (zq_t3 (List.mem_of_getElem? (i := 64) rfl)) rfl, Or.inl rfl⟩
theorem fl_X3_48 : zq_FL RX3 48 10 0 := ⟨_, _, _, rfl, by decide, zq_in (zq_t3 (List.mem_of_getElem? (i := 61) rfl)) rfl⟩
theorem fl_X3_52 : zq_FL RX3 52 1 0 := ⟨_, _, _, rfl, by decide, zq_in (zq_t3 (List.mem_of_getElem? (i := 96) rfl)) rfl⟩
theorem pl_X3_52 (nm : String) : zq_PL RX3 nm 52 1 0 := ⟨_, _, _, rfl, by decide, zq_in (zq_t3 (List.mem_of_getElem? (i := 96) rfl)) rfl, Or.inl rfl⟩
theorem fl_X3_57 : zq_FL RX3 57 1 5 := ⟨_, _, _, rfl, by decide, zq_in (zq_t3 (List.mem_of_getElem? (i := 113) rfl)) rfl⟩
theorem pl_X3_57 (nm : String) : zq_PL RX3 nm 57 1 5 := ⟨_, _, _, rfl, by decide, zq_in (zq_t3 (List.mem_of_getElem? (i := 113) rfl)) rfl, Or.inl rfl⟩
theorem mv_X3_60 : zq_MV RX3 60 9 yX9_reckon 4 := ⟨zq_in (zq_t2 (List.mem_of_getElem? (i := 127) rfl)) rfl, zq_in (zq_t2 (List.mem_of_getElem? (i := 128) rfl)) rfl, ⟨_, rfl, zq_in (zq_t2 (List.mem_of_getElem? (i := 129) rfl)) rfl⟩, mi_X9_reckon⟩
theorem mv_X3_64 : zq_MV RX3 64 7 yX7_has 1 := ⟨zq_in (zq_t2 (List.mem_of_getElem? (i := 112) rfl)) rfl, zq_in (zq_t2 (List.mem_of_getElem? (i := 79) rfl)) rfl, ⟨_, rfl, zq_in (zq_t2 (List.mem_of_getElem? (i := 80) rfl)) rfl⟩, mi_X7_has⟩
theorem fl_X3_68 : zq_FL RX3 68 7 3 := ⟨_, _, _, rfl, by decide, zq_in (zq_t1 (List.mem_of_getElem? (i := 50) rfl)) rfl⟩
theorem mi_X6_lengthOf : zq_MI yX6_lengthOf 1 := ⟨zq_in (zq_t1 (List.mem_of_getElem? (i := 11) rfl)) rfl, ⟨by decide, by decide⟩, by decide +kernel⟩
theorem cw_X6_lengthOf : Cond.code yX6_lengthOf cX6_lengthOf 1 (some .int) ∈ zq_ws := zq_in (zq_t2 (List.mem_of_getElem? (i := 119) rfl)) rfl
theorem ms_X3_71 : zq_MS RX3 71 yX6_lengthOf 1 := ⟨Or.inl (zq_in (zq_t2 (List.mem_of_getElem? (i := 117) rfl)) rfl), zq_in (zq_t2 (List.mem_of_getElem? (i := 118) rfl)) rfl, mi_X6_lengthOf⟩
theorem fl_X3_74 : zq_FL RX3 74 7 7 := ⟨_, _, _, rfl, by decide, zq_in (zq_t1 (List.mem_of_getElem? (i := 57) rfl)) rfl⟩
theorem mi_J9_min_7cf53 : zq_MI yJ9_min_7cf53 2 := ⟨zq_in (zq_t1 (List.mem_of_getElem? (i := 12) rfl)) rfl, ⟨by decide, by decide⟩, by decide +kernel⟩
theorem cw_J9_min_7cf53 : Cond.code yJ9_min_7cf53 cJ9_min_7cf53 2 (some .int) ∈ zq_ws := zq_in (zq_t2 (List.mem_of_getElem? (i := 126) rfl)) rfl
theorem ms_X3_77 : zq_MS RX3 77 yJ9_min_7cf53 2 := ⟨Or.inl (zq_in (zq_t2 (List.mem_of_getElem? (i := 124) rfl)) rfl), zq_in (zq_t2 (List.mem_of_getElem? (i := 125) rfl)) rfl, mi_J9_min_7cf53⟩
theorem fl_X3_82 : zq_FL RX3 82 1 2 := ⟨_, _, _, rfl, by decide, zq_in (zq_t3 (List.mem_of_getElem? (i := 103) rfl)) rfl⟩
theorem pl_X3_82 (nm : String) : zq_PL RX3 nm 82 1 2 := ⟨_, _, _, rfl, by decide, zq_in (zq_t3 (List.mem_of_getElem? (i := 103) rfl)) rfl, Or.inl rfl⟩
theorem kc_X3_85 : Cond.constant RX3 85 (-2000000000) ∈ zq_ws := zq_in (zq_t2 (List.mem_of_getElem? (i := 137) rfl)) rfl
theorem ms_X3_86 : zq_MS RX3 86 yJ9_max_7cf53 2 := ⟨Or.inl (zq_in (zq_t2 (List.mem_of_getElem? (i := 138) rfl)) rfl), zq_in (zq_t2 (List.mem_of_getElem? (i := 139) rfl)) rfl, mi_J9_max_7cf53⟩
theorem oi_X4_3 : Cond.methodLink RX4 3 Lib.objectInit ∈ zq_ws := zq_in (zq_t1 (List.mem_of_getElem? (i := 106) rfl)) rfl
theorem fl_X4_9 : zq_FL RX4 9 4 0 := ⟨_, _, _, rfl, by decide, zq_in (zq_t1 (List.mem_of_getElem? (i := 107) rfl)) rfl⟩
theorem pl_X4_9 (nm : String) : zq_PL RX4 nm 9 4 0 := ⟨_, _, _, rfl, by decide, zq_in (zq_t1 (List.mem_of_getElem? (i := 107) rfl)) rfl, Or.inl rfl⟩
theorem fl_X4_15 : zq_FL RX4 15 4 1 := ⟨_, _, _, rfl, by decide, zq_in (zq_t1 (List.mem_of_getElem? (i := 109) rfl)) rfl⟩
theorem pl_X4_15 : zq_PL RX4 "<init>" 15 4 1 := ⟨_, _, _, rfl, by decide, zq_in (zq_t1 (List.mem_of_getElem? (i := 109) rfl)) rfl, Or.inr ⟨rfl, rfl, rfl⟩⟩
theorem oi_X5_5 : Cond.methodLink RX5 5 Lib.objectInit ∈ zq_ws := zq_in (zq_t1 (List.mem_of_getElem? (i := 200) rfl)) rfl
theorem fl_X5_11 : zq_FL RX5 11 5 0 := ⟨_, _, _, rfl, by decide, zq_in (zq_t1 (List.mem_of_getElem? (i := 201) rfl)) rfl⟩
theorem pl_X5_11 : zq_PL RX5 "<init>" 11 5 0 := ⟨_, _, _, rfl, by decide, zq_in (zq_t1 (List.mem_of_getElem? (i := 201) rfl)) rfl, Or.inr ⟨rfl, rfl, rfl⟩⟩
theorem fl_X5_15 : zq_FL RX5 15 5 1 := ⟨_, _, _, rfl, by decide, zq_in (zq_t1 (List.mem_of_getElem? (i := 202) rfl)) rfl⟩
theorem pl_X5_15 : zq_PL RX5 "<init>" 15 5 1 := ⟨_, _, _, rfl, by decide, zq_in (zq_t1 (List.mem_of_getElem? (i := 202) rfl)) rfl, Or.inr ⟨rfl, rfl, rfl⟩⟩
theorem fl_X5_18 : zq_FL RX5 18 7 0 := ⟨_, _, _, rfl, by decide, zq_in (zq_t1 (List.mem_of_getElem? (i := 39) rfl)) rfl⟩
theorem pl_X5_18 (nm : String) : zq_PL RX5 nm 18 7 0 := ⟨_, _, _, rfl, by decide, zq_in (zq_t1 (List.mem_of_getElem? (i := 39) rfl)) rfl, Or.inl rfl⟩
theorem mi_X5_setPrices : zq_MI yX5_setPrices 4 := ⟨zq_in (zq_t1 (List.mem_of_getElem? (i := 8) rfl)) rfl, ⟨by decide, by decide⟩, by decide +kernel⟩
theorem cw_X5_setPrices : Cond.code yX5_setPrices cX5_setPrices 12 none ∈ zq_ws := zq_in (zq_t4 (List.mem_of_getElem? (i := 232) rfl)) rfl
theorem mv_X5_24 : zq_MV RX5 24 5 yX5_setPrices 4 := ⟨zq_in (zq_t4 (List.mem_of_getElem? (i := 229) rfl)) rfl, zq_in (zq_t4 (List.mem_of_getElem? (i := 231) rfl)) rfl, ⟨_, rfl, zq_in (zq_ts (List.mem_of_getElem? (i := 39) rfl)) rfl⟩, mi_X5_setPrices⟩
theorem kc_X5_28 : Cond.constant RX5 28 (1000000) ∈ zq_ws := zq_in (zq_t4 (List.mem_of_getElem? (i := 237) rfl)) rfl
theorem mi_X5_setLeast : zq_MI yX5_setLeast 2 := ⟨zq_in (zq_t1 (List.mem_of_getElem? (i := 8) rfl)) rfl, ⟨by decide, by decide⟩, by decide +kernel⟩
theorem cw_X5_setLeast : Cond.code yX5_setLeast cX5_setLeast 7 none ∈ zq_ws := zq_in (zq_t5 (List.mem_of_getElem? (i := 2) rfl)) rfl
theorem mv_X5_29 : zq_MV RX5 29 5 yX5_setLeast 2 := ⟨zq_in (zq_t4 (List.mem_of_getElem? (i := 239) rfl)) rfl, zq_in (zq_t5 (List.mem_of_getElem? (i := 1) rfl)) rfl, ⟨_, rfl, zq_in (zq_ts (List.mem_of_getElem? (i := 40) rfl)) rfl⟩, mi_X5_setLeast⟩
theorem mv_X5_33 : zq_MV RX5 33 7 yX7_has 1 := ⟨zq_in (zq_t4 (List.mem_of_getElem? (i := 233) rfl)) rfl, zq_in (zq_t2 (List.mem_of_getElem? (i := 79) rfl)) rfl, ⟨_, rfl, zq_in (zq_t2 (List.mem_of_getElem? (i := 80) rfl)) rfl⟩, mi_X7_has⟩
theorem fl_X5_37 : zq_FL RX5 37 7 2 := ⟨_, _, _, rfl, by decide, zq_in (zq_t1 (List.mem_of_getElem? (i := 46) rfl)) rfl⟩
theorem mv_X5_40 : zq_MV RX5 40 3 yX3_isBarred 3 := ⟨zq_in (zq_t4 (List.mem_of_getElem? (i := 234) rfl)) rfl, zq_in (zq_t2 (List.mem_of_getElem? (i := 142) rfl)) rfl, ⟨_, rfl, zq_in (zq_t2 (List.mem_of_getElem? (i := 143) rfl)) rfl⟩, mi_X3_isBarred⟩
theorem mv_X5_46 : zq_MV RX5 46 7 yX7_nameOf 1 := ⟨zq_in (zq_t4 (List.mem_of_getElem? (i := 235) rfl)) rfl, zq_in (zq_t2 (List.mem_of_getElem? (i := 114) rfl)) rfl, ⟨_, rfl, zq_in (zq_t2 (List.mem_of_getElem? (i := 115) rfl)) rfl⟩, mi_X7_nameOf⟩
theorem ms_X5_50 : zq_MS RX5 50 yX6_letterOf 2 := ⟨Or.inl (zq_in (zq_t4 (List.mem_of_getElem? (i := 236) rfl)) rfl), zq_in (zq_t2 (List.mem_of_getElem? (i := 158) rfl)) rfl, mi_X6_letterOf⟩
theorem mv_X5_56 : zq_MV RX5 56 3 yX3_strokeCost 5 := ⟨zq_in (zq_t4 (List.mem_of_getElem? (i := 238) rfl)) rfl, zq_in (zq_t2 (List.mem_of_getElem? (i := 167) rfl)) rfl, ⟨_, rfl, zq_in (zq_t2 (List.mem_of_getElem? (i := 168) rfl)) rfl⟩, mi_X3_strokeCost⟩
theorem fl_X5_60 : zq_FL RX5 60 7 5 := ⟨_, _, _, rfl, by decide, zq_in (zq_t1 (List.mem_of_getElem? (i := 53) rfl)) rfl⟩
theorem mi_X5_nameOfRank : zq_MI yX5_nameOfRank 2 := ⟨zq_in (zq_t1 (List.mem_of_getElem? (i := 8) rfl)) rfl, ⟨by decide, by decide⟩, by decide +kernel⟩
theorem cw_X5_nameOfRank : Cond.code yX5_nameOfRank cX5_nameOfRank 6 (some .int) ∈ zq_ws := zq_in (zq_t5 (List.mem_of_getElem? (i := 5) rfl)) rfl
theorem ms_X5_63 : zq_MS RX5 63 yX5_nameOfRank 2 := ⟨Or.inl (zq_in (zq_t5 (List.mem_of_getElem? (i := 3) rfl)) rfl), zq_in (zq_t5 (List.mem_of_getElem? (i := 4) rfl)) rfl, mi_X5_nameOfRank⟩
theorem ms_X5_67 : zq_MS RX5 67 yJ9_min_7cf53 2 := ⟨Or.inl (zq_in (zq_t5 (List.mem_of_getElem? (i := 9) rfl)) rfl), zq_in (zq_t2 (List.mem_of_getElem? (i := 125) rfl)) rfl, mi_J9_min_7cf53⟩
theorem mi_X5_price : zq_MI yX5_price 2 := ⟨zq_in (zq_t1 (List.mem_of_getElem? (i := 8) rfl)) rfl, ⟨by decide, by decide⟩, by decide +kernel⟩
theorem cw_X5_price : Cond.code yX5_price cX5_price 4 (some .int) ∈ zq_ws := zq_in (zq_t5 (List.mem_of_getElem? (i := 13) rfl)) rfl
theorem mv_X5_72 : zq_MV RX5 72 5 yX5_price 2 := ⟨zq_in (zq_t5 (List.mem_of_getElem? (i := 10) rfl)) rfl, zq_in (zq_t5 (List.mem_of_getElem? (i := 12) rfl)) rfl, ⟨_, rfl, zq_in (zq_ts (List.mem_of_getElem? (i := 41) rfl)) rfl⟩, mi_X5_price⟩
theorem sl_X5_75 : zq_SL RX5 75 4 := ⟨⟨by decide, by decide⟩, Or.inl (zq_in (zq_t5 (List.mem_of_getElem? (i := 6) rfl)) rfl)⟩
theorem sl_X5_78 : zq_SL RX5 78 1 := ⟨⟨by decide, by decide⟩, Or.inr (by decide +kernel)⟩
theorem mi_X5_withoutZeros : zq_MI yX5_withoutZeros 1 := ⟨zq_in (zq_t1 (List.mem_of_getElem? (i := 8) rfl)) rfl, ⟨by decide, by decide⟩, by decide +kernel⟩
theorem cw_X5_withoutZeros : Cond.code yX5_withoutZeros cX5_withoutZeros 3 (some .int) ∈ zq_ws := zq_in (zq_t5 (List.mem_of_getElem? (i := 20) rfl)) rfl
theorem ms_X5_81 : zq_MS RX5 81 yX5_withoutZeros 1 := ⟨Or.inl (zq_in (zq_t5 (List.mem_of_getElem? (i := 18) rfl)) rfl), zq_in (zq_t5 (List.mem_of_getElem? (i := 19) rfl)) rfl, mi_X5_withoutZeros⟩
theorem ms_X6_9 : zq_MS RX6 9 yX11_isLetter 1 := ⟨Or.inr (by decide +kernel), zq_in (zq_t2 (List.mem_of_getElem? (i := 55) rfl)) rfl, mi_X11_isLetter⟩
theorem ms_X6_13 : zq_MS RX6 13 yX11_isLetterPlace 1 := ⟨Or.inr (by decide +kernel), zq_in (zq_t2 (List.mem_of_getElem? (i := 154) rfl)) rfl, mi_X11_isLetterPlace⟩
theorem mi_X6_padded : zq_MI yX6_padded 1 := ⟨zq_in (zq_t1 (List.mem_of_getElem? (i := 11) rfl)) rfl, ⟨by decide, by decide⟩, by decide +kernel⟩
theorem cw_X6_padded : Cond.code yX6_padded cX6_padded 3 (some .int) ∈ zq_ws := zq_in (zq_t2 (List.mem_of_getElem? (i := 163) rfl)) rfl
theorem ms_X6_16 : zq_MS RX6 16 yX6_padded 1 := ⟨Or.inl (zq_in (zq_t2 (List.mem_of_getElem? (i := 161) rfl)) rfl), zq_in (zq_t2 (List.mem_of_getElem? (i := 162) rfl)) rfl, mi_X6_padded⟩
theorem sl_X6_22 : zq_SL RX6 22 1 := ⟨⟨by decide, by decide⟩, Or.inr (by decide +kernel)⟩
theorem ms_X6_26 : zq_MS RX6 26 yX6_lengthOf 1 := ⟨Or.inl (zq_in (zq_t4 (List.mem_of_getElem? (i := 44) rfl)) rfl), zq_in (zq_t2 (List.mem_of_getElem? (i := 118) rfl)) rfl, mi_X6_lengthOf⟩
theorem ms_X6_29 : zq_MS RX6 29 yX6_letterOf 2 := ⟨Or.inl (zq_in (zq_t4 (List.mem_of_getElem? (i := 45) rfl)) rfl), zq_in (zq_t2 (List.mem_of_getElem? (i := 158) rfl)) rfl, mi_X6_letterOf⟩
theorem oi_X7_3 : Cond.methodLink RX7 3 Lib.objectInit ∈ zq_ws := zq_in (zq_t1 (List.mem_of_getElem? (i := 35) rfl)) rfl
theorem fl_X7_9 : zq_FL RX7 9 7 0 := ⟨_, _, _, rfl, by decide, zq_in (zq_t1 (List.mem_of_getElem? (i := 38) rfl)) rfl⟩
theorem pl_X7_9 (nm : String) : zq_PL RX7 nm 9 7 0 := ⟨_, _, _, rfl, by decide, zq_in (zq_t1 (List.mem_of_getElem? (i := 38) rfl)) rfl, Or.inl rfl⟩
theorem fl_X7_15 : zq_FL RX7 15 7 1 := ⟨_, _, _, rfl, by decide, zq_in (zq_t1 (List.mem_of_getElem? (i := 43) rfl)) rfl⟩
theorem pl_X7_15 : zq_PL RX7 "<init>" 15 7 1 := ⟨_, _, _, rfl, by decide, zq_in (zq_t1 (List.mem_of_getElem? (i := 43) rfl)) rfl, Or.inr ⟨rfl, rfl, rfl⟩⟩
theorem fl_X7_19 : zq_FL RX7 19 7 2 := ⟨_, _, _, rfl, by decide, zq_in (zq_t1 (List.mem_of_getElem? (i := 45) rfl)) rfl⟩
theorem pl_X7_19 : zq_PL RX7 "<init>" 19 7 2 := ⟨_, _, _, rfl, by decide, zq_in (zq_t1 (List.mem_of_getElem? (i := 45) rfl)) rfl, Or.inr ⟨rfl, rfl, rfl⟩⟩
theorem fl_X7_22 : zq_FL RX7 22 7 3 := ⟨_, _, _, rfl, by decide, zq_in (zq_t1 (List.mem_of_getElem? (i := 48) rfl)) rfl⟩
theorem pl_X7_22 : zq_PL RX7 "<init>" 22 7 3 := ⟨_, _, _, rfl, by decide, zq_in (zq_t1 (List.mem_of_getElem? (i := 48) rfl)) rfl, Or.inr ⟨rfl, rfl, rfl⟩⟩
theorem fl_X7_25 : zq_FL RX7 25 7 4 := ⟨_, _, _, rfl, by decide, zq_in (zq_t1 (List.mem_of_getElem? (i := 51) rfl)) rfl⟩
theorem pl_X7_25 : zq_PL RX7 "<init>" 25 7 4 := ⟨_, _, _, rfl, by decide, zq_in (zq_t1 (List.mem_of_getElem? (i := 51) rfl)) rfl, Or.inr ⟨rfl, rfl, rfl⟩⟩
theorem fl_X7_28 : zq_FL RX7 28 7 5 := ⟨_, _, _, rfl, by decide, zq_in (zq_t1 (List.mem_of_getElem? (i := 52) rfl)) rfl⟩
theorem pl_X7_28 : zq_PL RX7 "<init>" 28 7 5 := ⟨_, _, _, rfl, by decide, zq_in (zq_t1 (List.mem_of_getElem? (i := 52) rfl)) rfl, Or.inr ⟨rfl, rfl, rfl⟩⟩
theorem fl_X7_31 : zq_FL RX7 31 7 6 := ⟨_, _, _, rfl, by decide, zq_in (zq_t1 (List.mem_of_getElem? (i := 54) rfl)) rfl⟩
theorem pl_X7_31 : zq_PL RX7 "<init>" 31 7 6 := ⟨_, _, _, rfl, by decide, zq_in (zq_t1 (List.mem_of_getElem? (i := 54) rfl)) rfl, Or.inr ⟨rfl, rfl, rfl⟩⟩
theorem fl_X7_34 : zq_FL RX7 34 7 7 := ⟨_, _, _, rfl, by decide, zq_in (zq_t1 (List.mem_of_getElem? (i := 56) rfl)) rfl⟩
theorem pl_X7_34 : zq_PL RX7 "<init>" 34 7 7 := ⟨_, _, _, rfl, by decide, zq_in (zq_t1 (List.mem_of_getElem? (i := 56) rfl)) rfl, Or.inr ⟨rfl, rfl, rfl⟩⟩
theorem fl_X7_37 : zq_FL RX7 37 7 8 := ⟨_, _, _, rfl, by decide, zq_in (zq_t1 (List.mem_of_getElem? (i := 59) rfl)) rfl⟩
theorem pl_X7_37 (nm : String) : zq_PL RX7 nm 37 7 8 := ⟨_, _, _, rfl, by decide, zq_in (zq_t1 (List.mem_of_getElem? (i := 59) rfl)) rfl, Or.inl rfl⟩
theorem fl_X7_40 : zq_FL RX7 40 7 9 := ⟨_, _, _, rfl, by decide, zq_in (zq_t1 (List.mem_of_getElem? (i := 61) rfl)) rfl⟩
theorem pl_X7_40 : zq_PL RX7 "<init>" 40 7 9 := ⟨_, _, _, rfl, by decide, zq_in (zq_t1 (List.mem_of_getElem? (i := 61) rfl)) rfl, Or.inr ⟨rfl, rfl, rfl⟩⟩
theorem fl_X7_43 : zq_FL RX7 43 7 10 := ⟨_, _, _, rfl, by decide, zq_in (zq_t1 (List.mem_of_getElem? (i := 63) rfl)) rfl⟩
theorem pl_X7_43 : zq_PL RX7 "<init>" 43 7 10 := ⟨_, _, _, rfl, by decide, zq_in (zq_t1 (List.mem_of_getElem? (i := 63) rfl)) rfl, Or.inr ⟨rfl, rfl, rfl⟩⟩
theorem fl_X7_46 : zq_FL RX7 46 7 11 := ⟨_, _, _, rfl, by decide, zq_in (zq_t1 (List.mem_of_getElem? (i := 65) rfl)) rfl⟩
theorem pl_X7_46 (nm : String) : zq_PL RX7 nm 46 7 11 := ⟨_, _, _, rfl, by decide, zq_in (zq_t1 (List.mem_of_getElem? (i := 65) rfl)) rfl, Or.inl rfl⟩
theorem cl_X7_49 : Cond.classLink RX7 49 RX10 ∈ zq_ws := zq_in (zq_t1 (List.mem_of_getElem? (i := 36) rfl)) rfl
theorem fl_X7_51 : zq_FL RX7 51 7 12 := ⟨_, _, _, rfl, by decide, zq_in (zq_t1 (List.mem_of_getElem? (i := 67) rfl)) rfl⟩
theorem pl_X7_51 : zq_PL RX7 "<init>" 51 7 12 := ⟨_, _, _, rfl, by decide, zq_in (zq_t1 (List.mem_of_getElem? (i := 67) rfl)) rfl, Or.inr ⟨rfl, rfl, rfl⟩⟩
theorem fl_X7_55 : zq_FL RX7 55 7 13 := ⟨_, _, _, rfl, by decide, zq_in (zq_t1 (List.mem_of_getElem? (i := 68) rfl)) rfl⟩
theorem pl_X7_55 (nm : String) : zq_PL RX7 nm 55 7 13 := ⟨_, _, _, rfl, by decide, zq_in (zq_t1 (List.mem_of_getElem? (i := 68) rfl)) rfl, Or.inl rfl⟩
theorem sl_X7_64 : zq_SL RX7 64 2 := ⟨⟨by decide, by decide⟩, Or.inr (by decide +kernel)⟩
theorem mv_X7_67 : zq_MV RX7 67 7 yX7_hasRoom 0 := ⟨zq_in (zq_t2 (List.mem_of_getElem? (i := 73) rfl)) rfl, zq_in (zq_t2 (List.mem_of_getElem? (i := 62) rfl)) rfl, ⟨_, rfl, zq_in (zq_t2 (List.mem_of_getElem? (i := 63) rfl)) rfl⟩, mi_X7_hasRoom⟩
theorem mv_X7_71 : zq_MV RX7 71 7 yX7_teach 3 := ⟨zq_in (zq_t2 (List.mem_of_getElem? (i := 74) rfl)) rfl, zq_in (zq_t2 (List.mem_of_getElem? (i := 75) rfl)) rfl, ⟨_, rfl, zq_in (zq_t2 (List.mem_of_getElem? (i := 76) rfl)) rfl⟩, mi_X7_teach⟩
theorem mv_X7_75 : zq_MV RX7 75 7 yX7_has 1 := ⟨zq_in (zq_t2 (List.mem_of_getElem? (i := 78) rfl)) rfl, zq_in (zq_t2 (List.mem_of_getElem? (i := 79) rfl)) rfl, ⟨_, rfl, zq_in (zq_t2 (List.mem_of_getElem? (i := 80) rfl)) rfl⟩, mi_X7_has⟩
theorem ms_X7_79 : zq_MS RX7 79 yX11_isLetter 1 := ⟨Or.inr (by decide +kernel), zq_in (zq_t2 (List.mem_of_getElem? (i := 55) rfl)) rfl, mi_X11_isLetter⟩
theorem mv_X7_82 : zq_MV RX7 82 7 yX7_nameOf 1 := ⟨zq_in (zq_t4 (List.mem_of_getElem? (i := 12) rfl)) rfl, zq_in (zq_t2 (List.mem_of_getElem? (i := 114) rfl)) rfl, ⟨_, rfl, zq_in (zq_t2 (List.mem_of_getElem? (i := 115) rfl)) rfl⟩, mi_X7_nameOf⟩
theorem mi_X6_withLetter : zq_MI yX6_withLetter 3 := ⟨zq_in (zq_t1 (List.mem_of_getElem? (i := 11) rfl)) rfl, ⟨by decide, by decide⟩, by decide +kernel⟩
theorem cw_X6_withLetter : Cond.code yX6_withLetter cX6_withLetter 4 (some .int) ∈ zq_ws := zq_in (zq_t4 (List.mem_of_getElem? (i := 43) rfl)) rfl
theorem ms_X7_86 : zq_MS RX7 86 yX6_withLetter 3 := ⟨Or.inl (zq_in (zq_t4 (List.mem_of_getElem? (i := 41) rfl)) rfl), zq_in (zq_t4 (List.mem_of_getElem? (i := 42) rfl)) rfl, mi_X6_withLetter⟩
theorem mv_X7_92 : zq_MV RX7 92 7 yX7_hasLaw 1 := ⟨zq_in (zq_t2 (List.mem_of_getElem? (i := 100) rfl)) rfl, zq_in (zq_t2 (List.mem_of_getElem? (i := 101) rfl)) rfl, ⟨_, rfl, zq_in (zq_t2 (List.mem_of_getElem? (i := 102) rfl)) rfl⟩, mi_X7_hasLaw⟩
theorem mv_X7_95 : zq_MV RX7 95 7 yX7_lawOf 1 := ⟨zq_in (zq_t2 (List.mem_of_getElem? (i := 96) rfl)) rfl, zq_in (zq_t2 (List.mem_of_getElem? (i := 97) rfl)) rfl, ⟨_, rfl, zq_in (zq_t2 (List.mem_of_getElem? (i := 98) rfl)) rfl⟩, mi_X7_lawOf⟩
theorem ms_X7_99 : zq_MS RX7 99 yX6_differ 2 := ⟨Or.inl (zq_in (zq_t4 (List.mem_of_getElem? (i := 17) rfl)) rfl), zq_in (zq_t4 (List.mem_of_getElem? (i := 18) rfl)) rfl, mi_X6_differ⟩
theorem ms_X7_103 : zq_MS RX7 103 yX6_isMet 2 := ⟨Or.inl (zq_in (zq_t4 (List.mem_of_getElem? (i := 20) rfl)) rfl), zq_in (zq_t4 (List.mem_of_getElem? (i := 21) rfl)) rfl, mi_X6_isMet⟩
theorem mv_X7_107 : zq_MV RX7 107 7 yX7_nameAt 1 := ⟨zq_in (zq_t4 (List.mem_of_getElem? (i := 8) rfl)) rfl, zq_in (zq_t4 (List.mem_of_getElem? (i := 9) rfl)) rfl, ⟨_, rfl, zq_in (zq_t4 (List.mem_of_getElem? (i := 10) rfl)) rfl⟩, mi_X7_nameAt⟩
theorem mi_X7_isAhead : zq_MI yX7_isAhead 2 := ⟨zq_in (zq_t1 (List.mem_of_getElem? (i := 2) rfl)) rfl, ⟨by decide, by decide⟩, by decide +kernel⟩
theorem cw_X7_isAhead : Cond.code yX7_isAhead cX7_isAhead 3 (some .boolean) ∈ zq_ws := zq_in (zq_t4 (List.mem_of_getElem? (i := 16) rfl)) rfl
theorem mv_X7_110 : zq_MV RX7 110 7 yX7_isAhead 2 := ⟨zq_in (zq_t4 (List.mem_of_getElem? (i := 13) rfl)) rfl, zq_in (zq_t4 (List.mem_of_getElem? (i := 15) rfl)) rfl, ⟨_, rfl, zq_in (zq_ts (List.mem_of_getElem? (i := 27) rfl)) rfl⟩, mi_X7_isAhead⟩
theorem ms_X7_114 : zq_MS RX7 114 yJ6_bitCount_0f7a4 1 := ⟨Or.inl (zq_in (zq_t4 (List.mem_of_getElem? (i := 145) rfl)) rfl), zq_in (zq_t4 (List.mem_of_getElem? (i := 146) rfl)) rfl, mi_J6_bitCount_0f7a4⟩
theorem mi_X7_isRightWithout : zq_MI yX7_isRightWithout 1 := ⟨zq_in (zq_t1 (List.mem_of_getElem? (i := 2) rfl)) rfl, ⟨by decide, by decide⟩, by decide +kernel⟩
theorem cw_X7_isRightWithout : Cond.code yX7_isRightWithout cX7_isRightWithout 5 (some .boolean) ∈ zq_ws := zq_in (zq_t4 (List.mem_of_getElem? (i := 154) rfl)) rfl
theorem mv_X7_119 : zq_MV RX7 119 7 yX7_isRightWithout 1 := ⟨zq_in (zq_t4 (List.mem_of_getElem? (i := 151) rfl)) rfl, zq_in (zq_t4 (List.mem_of_getElem? (i := 153) rfl)) rfl, ⟨_, rfl, zq_in (zq_ts (List.mem_of_getElem? (i := 34) rfl)) rfl⟩, mi_X7_isRightWithout⟩
theorem mv_X7_122 : zq_MV RX7 122 7 yX7_said 2 := ⟨zq_in (zq_t5 (List.mem_of_getElem? (i := 34) rfl)) rfl, zq_in (zq_t2 (List.mem_of_getElem? (i := 176) rfl)) rfl, ⟨_, rfl, zq_in (zq_t2 (List.mem_of_getElem? (i := 177) rfl)) rfl⟩, mi_X7_said⟩
theorem oi_X8_5 : Cond.methodLink RX8 5 Lib.objectInit ∈ zq_ws := zq_in (zq_t1 (List.mem_of_getElem? (i := 120) rfl)) rfl
theorem fl_X8_11 : zq_FL RX8 11 8 0 := ⟨_, _, _, rfl, by decide, zq_in (zq_t1 (List.mem_of_getElem? (i := 121) rfl)) rfl⟩
theorem pl_X8_11 : zq_PL RX8 "<init>" 11 8 0 := ⟨_, _, _, rfl, by decide, zq_in (zq_t1 (List.mem_of_getElem? (i := 121) rfl)) rfl, Or.inr ⟨rfl, rfl, rfl⟩⟩
theorem fl_X8_15 : zq_FL RX8 15 8 1 := ⟨_, _, _, rfl, by decide, zq_in (zq_t1 (List.mem_of_getElem? (i := 122) rfl)) rfl⟩
theorem pl_X8_15 : zq_PL RX8 "<init>" 15 8 1 := ⟨_, _, _, rfl, by decide, zq_in (zq_t1 (List.mem_of_getElem? (i := 122) rfl)) rfl, Or.inr ⟨rfl, rfl, rfl⟩⟩
theorem fl_X8_18 : zq_FL RX8 18 8 2 := ⟨_, _, _, rfl, by decide, zq_in (zq_t1 (List.mem_of_getElem? (i := 123) rfl)) rfl⟩
theorem pl_X8_18 (nm : String) : zq_PL RX8 nm 18 8 2 := ⟨_, _, _, rfl, by decide, zq_in (zq_t1 (List.mem_of_getElem? (i := 123) rfl)) rfl, Or.inl rfl⟩
theorem fl_X8_22 : zq_FL RX8 22 8 3 := ⟨_, _, _, rfl, by decide, zq_in (zq_t1 (List.mem_of_getElem? (i := 124) rfl)) rfl⟩
theorem pl_X8_22 (nm : String) : zq_PL RX8 nm 22 8 3 := ⟨_, _, _, rfl, by decide, zq_in (zq_t1 (List.mem_of_getElem? (i := 124) rfl)) rfl, Or.inl rfl⟩
theorem fl_X8_25 : zq_FL RX8 25 8 4 := ⟨_, _, _, rfl, by decide, zq_in (zq_t1 (List.mem_of_getElem? (i := 125) rfl)) rfl⟩
theorem pl_X8_25 : zq_PL RX8 "<init>" 25 8 4 := ⟨_, _, _, rfl, by decide, zq_in (zq_t1 (List.mem_of_getElem? (i := 125) rfl)) rfl, Or.inr ⟨rfl, rfl, rfl⟩⟩
theorem fl_X8_28 : zq_FL RX8 28 8 5 := ⟨_, _, _, rfl, by decide, zq_in (zq_t1 (List.mem_of_getElem? (i := 126) rfl)) rfl⟩
theorem pl_X8_28 (nm : String) : zq_PL RX8 nm 28 8 5 := ⟨_, _, _, rfl, by decide, zq_in (zq_t1 (List.mem_of_getElem? (i := 126) rfl)) rfl, Or.inl rfl⟩
theorem fl_X8_31 : zq_FL RX8 31 8 6 := ⟨_, _, _, rfl, by decide, zq_in (zq_t1 (List.mem_of_getElem? (i := 127) rfl)) rfl⟩
theorem pl_X8_31 (nm : String) : zq_PL RX8 nm 31 8 6 := ⟨_, _, _, rfl, by decide, zq_in (zq_t1 (List.mem_of_getElem? (i := 127) rfl)) rfl, Or.inl rfl⟩
theorem fl_X8_34 : zq_FL RX8 34 8 7 := ⟨_, _, _, rfl, by decide, zq_in (zq_t1 (List.mem_of_getElem? (i := 128) rfl)) rfl⟩
theorem pl_X8_34 (nm : String) : zq_PL RX8 nm 34 8 7 := ⟨_, _, _, rfl, by decide, zq_in (zq_t1 (List.mem_of_getElem? (i := 128) rfl)) rfl, Or.inl rfl⟩
theorem fl_X8_37 : zq_FL RX8 37 8 8 := ⟨_, _, _, rfl, by decide, zq_in (zq_t1 (List.mem_of_getElem? (i := 129) rfl)) rfl⟩
theorem pl_X8_37 (nm : String) : zq_PL RX8 nm 37 8 8 := ⟨_, _, _, rfl, by decide, zq_in (zq_t1 (List.mem_of_getElem? (i := 129) rfl)) rfl, Or.inl rfl⟩
theorem ms_X8_41 : zq_MS RX8 41 yJ9_min_7cf53 2 := ⟨Or.inl (zq_in (zq_t2 (List.mem_of_getElem? (i := 226) rfl)) rfl), zq_in (zq_t2 (List.mem_of_getElem? (i := 125) rfl)) rfl, mi_J9_min_7cf53⟩
theorem mi_X8_split : zq_MI yX8_split 2 := ⟨zq_in (zq_t1 (List.mem_of_getElem? (i := 4) rfl)) rfl, ⟨by decide, by decide⟩, by decide +kernel⟩
theorem cw_X8_split : Cond.code yX8_split cX8_split 7 none ∈ zq_ws := zq_in (zq_t2 (List.mem_of_getElem? (i := 230) rfl)) rfl
theorem mv_X8_47 : zq_MV RX8 47 8 yX8_split 2 := ⟨zq_in (zq_t2 (List.mem_of_getElem? (i := 227) rfl)) rfl, zq_in (zq_t2 (List.mem_of_getElem? (i := 229) rfl)) rfl, ⟨_, rfl, zq_in (zq_ts (List.mem_of_getElem? (i := 6) rfl)) rfl⟩, mi_X8_split⟩
theorem cl_X8_51 : Cond.classLink RX8 51 RX10 ∈ zq_ws := zq_in (zq_t3 (List.mem_of_getElem? (i := 52) rfl)) rfl
theorem mi_X10_init : zq_MI yX10_init 0 := ⟨zq_in (zq_t1 (List.mem_of_getElem? (i := 17) rfl)) rfl, ⟨by decide, by decide⟩, by decide +kernel⟩
theorem cw_X10_init : Cond.code yX10_init cX10_init 1 none ∈ zq_ws := zq_in (zq_t3 (List.mem_of_getElem? (i := 56) rfl)) rfl
theorem mc_X8_53 : zq_MC RX8 53 yX10_init 0 := ⟨Or.inr (by decide +kernel), rfl, zq_in (zq_t3 (List.mem_of_getElem? (i := 55) rfl)) rfl, mi_X10_init⟩
theorem mi_X8_readClause : zq_MI yX8_readClause 1 := ⟨zq_in (zq_t1 (List.mem_of_getElem? (i := 4) rfl)) rfl, ⟨by decide, by decide⟩, by decide +kernel⟩
theorem cw_X8_readClause : Cond.code yX8_readClause cX8_readClause 3 none ∈ zq_ws := zq_in (zq_t3 (List.mem_of_getElem? (i := 81) rfl)) rfl
theorem mv_X8_54 : zq_MV RX8 54 8 yX8_readClause 1 := ⟨zq_in (zq_t3 (List.mem_of_getElem? (i := 78) rfl)) rfl, zq_in (zq_t3 (List.mem_of_getElem? (i := 80) rfl)) rfl, ⟨_, rfl, zq_in (zq_ts (List.mem_of_getElem? (i := 7) rfl)) rfl⟩, mi_X8_readClause⟩
theorem mi_X8_next : zq_MI yX8_next 0 := ⟨zq_in (zq_t1 (List.mem_of_getElem? (i := 4) rfl)) rfl, ⟨by decide, by decide⟩, by decide +kernel⟩
theorem cw_X8_next : Cond.code yX8_next cX8_next 1 none ∈ zq_ws := zq_in (zq_t3 (List.mem_of_getElem? (i := 136) rfl)) rfl
theorem mv_X8_58 : zq_MV RX8 58 8 yX8_next 0 := ⟨zq_in (zq_t3 (List.mem_of_getElem? (i := 133) rfl)) rfl, zq_in (zq_t3 (List.mem_of_getElem? (i := 135) rfl)) rfl, ⟨_, rfl, zq_in (zq_ts (List.mem_of_getElem? (i := 10) rfl)) rfl⟩, mi_X8_next⟩
theorem mi_X8_fail : zq_MI yX8_fail 0 := ⟨zq_in (zq_t1 (List.mem_of_getElem? (i := 4) rfl)) rfl, ⟨by decide, by decide⟩, by decide +kernel⟩
theorem cw_X8_fail : Cond.code yX8_fail cX8_fail 1 none ∈ zq_ws := zq_in (zq_t3 (List.mem_of_getElem? (i := 85) rfl)) rfl
theorem mv_X8_61 : zq_MV RX8 61 8 yX8_fail 0 := ⟨zq_in (zq_t3 (List.mem_of_getElem? (i := 82) rfl)) rfl, zq_in (zq_t3 (List.mem_of_getElem? (i := 84) rfl)) rfl, ⟨_, rfl, zq_in (zq_ts (List.mem_of_getElem? (i := 8) rfl)) rfl⟩, mi_X8_fail⟩
theorem mi_J7_copyOf_59c91 : zq_MI yJ7_copyOf_59c91 2 := ⟨zq_in (zq_t1 (List.mem_of_getElem? (i := 19) rfl)) rfl, ⟨by decide, by decide⟩, by decide +kernel⟩
theorem cw_J7_copyOf_59c91 : Cond.code yJ7_copyOf_59c91 cJ7_copyOf_59c91 3 (some (.array .int)) ∈ zq_ws := zq_in (zq_t3 (List.mem_of_getElem? (i := 201) rfl)) rfl
theorem ms_X8_64 : zq_MS RX8 64 yJ7_copyOf_59c91 2 := ⟨Or.inl (zq_in (zq_t3 (List.mem_of_getElem? (i := 199) rfl)) rfl), zq_in (zq_t3 (List.mem_of_getElem? (i := 200) rfl)) rfl, mi_J7_copyOf_59c91⟩
theorem fl_X8_70 : zq_FL RX8 70 10 2 := ⟨_, _, _, rfl, by decide, zq_in (zq_t3 (List.mem_of_getElem? (i := 69) rfl)) rfl⟩
theorem pl_X8_70 (nm : String) : zq_PL RX8 nm 70 10 2 := ⟨_, _, _, rfl, by decide, zq_in (zq_t3 (List.mem_of_getElem? (i := 69) rfl)) rfl, Or.inl rfl⟩
theorem mi_X8_endOfToken : zq_MI yX8_endOfToken 3 := ⟨zq_in (zq_t1 (List.mem_of_getElem? (i := 4) rfl)) rfl, ⟨by decide, by decide⟩, by decide +kernel⟩
theorem cw_X8_endOfToken : Cond.code yX8_endOfToken cX8_endOfToken 5 (some .int) ∈ zq_ws := zq_in (zq_t2 (List.mem_of_getElem? (i := 233) rfl)) rfl
theorem ms_X8_71 : zq_MS RX8 71 yX8_endOfToken 3 := ⟨Or.inl (zq_in (zq_t2 (List.mem_of_getElem? (i := 231) rfl)) rfl), zq_in (zq_t2 (List.mem_of_getElem? (i := 232) rfl)) rfl, mi_X8_endOfToken⟩
theorem mi_X8_tokenOf : zq_MI yX8_tokenOf 3 := ⟨zq_in (zq_t1 (List.mem_of_getElem? (i := 4) rfl)) rfl, ⟨by decide, by decide⟩, by decide +kernel⟩
theorem cw_X8_tokenOf : Cond.code yX8_tokenOf cX8_tokenOf 6 (some .int) ∈ zq_ws := zq_in (zq_t2 (List.mem_of_getElem? (i := 239) rfl)) rfl
theorem ms_X8_75 : zq_MS RX8 75 yX8_tokenOf 3 := ⟨Or.inl (zq_in (zq_t2 (List.mem_of_getElem? (i := 237) rfl)) rfl), zq_in (zq_t2 (List.mem_of_getElem? (i := 238) rfl)) rfl, mi_X8_tokenOf⟩
theorem mi_X8_kindOf : zq_MI yX8_kindOf 1 := ⟨zq_in (zq_t1 (List.mem_of_getElem? (i := 4) rfl)) rfl, ⟨by decide, by decide⟩, by decide +kernel⟩
theorem cw_X8_kindOf : Cond.code yX8_kindOf cX8_kindOf 1 (some .int) ∈ zq_ws := zq_in (zq_t2 (List.mem_of_getElem? (i := 236) rfl)) rfl
theorem ms_X8_78 : zq_MS RX8 78 yX8_kindOf 1 := ⟨Or.inl (zq_in (zq_t2 (List.mem_of_getElem? (i := 234) rfl)) rfl), zq_in (zq_t2 (List.mem_of_getElem? (i := 235) rfl)) rfl, mi_X8_kindOf⟩
theorem mi_X8_wordOf : zq_MI yX8_wordOf 3 := ⟨zq_in (zq_t1 (List.mem_of_getElem? (i := 4) rfl)) rfl, ⟨by decide, by decide⟩, by decide +kernel⟩
theorem cw_X8_wordOf : Cond.code yX8_wordOf cX8_wordOf 8 (some .int) ∈ zq_ws := zq_in (zq_t3 (List.mem_of_getElem? (i := 2) rfl)) rfl
theorem ms_X8_82 : zq_MS RX8 82 yX8_wordOf 3 := ⟨Or.inl (zq_in (zq_t3 (List.mem_of_getElem? (i := 0) rfl)) rfl), zq_in (zq_t3 (List.mem_of_getElem? (i := 1) rfl)) rfl, mi_X8_wordOf⟩
theorem mi_J0_length_8abf5 : zq_MI yJ0_length_8abf5 0 := ⟨zq_in (zq_t1 (List.mem_of_getElem? (i := 13) rfl)) rfl, ⟨by decide, by decide⟩, by decide +kernel⟩
theorem cw_J0_length_8abf5 : Cond.code yJ0_length_8abf5 cJ0_length_8abf5 1 (some .int) ∈ zq_ws := zq_in (zq_t3 (List.mem_of_getElem? (i := 7) rfl)) rfl
theorem mi_J0_charAt_5068e : zq_MI yJ0_charAt_5068e 1 := ⟨zq_in (zq_t1 (List.mem_of_getElem? (i := 13) rfl)) rfl, ⟨by decide, by decide⟩, by decide +kernel⟩
theorem cw_J0_charAt_5068e : Cond.code yJ0_charAt_5068e cJ0_charAt_5068e 2 (some .char) ∈ zq_ws := zq_in (zq_t3 (List.mem_of_getElem? (i := 17) rfl)) rfl
theorem fl_X8_97 : zq_FL RX8 97 10 1 := ⟨_, _, _, rfl, by decide, zq_in (zq_t3 (List.mem_of_getElem? (i := 65) rfl)) rfl⟩
theorem pl_X8_97 (nm : String) : zq_PL RX8 nm 97 10 1 := ⟨_, _, _, rfl, by decide, zq_in (zq_t3 (List.mem_of_getElem? (i := 65) rfl)) rfl, Or.inl rfl⟩
theorem mi_X10_addClause : zq_MI yX10_addClause 0 := ⟨zq_in (zq_t1 (List.mem_of_getElem? (i := 17) rfl)) rfl, ⟨by decide, by decide⟩, by decide +kernel⟩
theorem cw_X10_addClause : Cond.code yX10_addClause cX10_addClause 2 (some (.object "LetterQuay$Clause")) ∈ zq_ws := zq_in (zq_t3 (List.mem_of_getElem? (i := 89) rfl)) rfl
theorem mv_X8_100 : zq_MV RX8 100 10 yX10_addClause 0 := ⟨zq_in (zq_t3 (List.mem_of_getElem? (i := 86) rfl)) rfl, zq_in (zq_t3 (List.mem_of_getElem? (i := 87) rfl)) rfl, ⟨_, rfl, zq_in (zq_t3 (List.mem_of_getElem? (i := 88) rfl)) rfl⟩, mi_X10_addClause⟩
theorem mi_X8_readOrder : zq_MI yX8_readOrder 1 := ⟨zq_in (zq_t1 (List.mem_of_getElem? (i := 4) rfl)) rfl, ⟨by decide, by decide⟩, by decide +kernel⟩
theorem cw_X8_readOrder : Cond.code yX8_readOrder cX8_readOrder 2 none ∈ zq_ws := zq_in (zq_t3 (List.mem_of_getElem? (i := 132) rfl)) rfl
theorem mv_X8_104 : zq_MV RX8 104 8 yX8_readOrder 1 := ⟨zq_in (zq_t3 (List.mem_of_getElem? (i := 129) rfl)) rfl, zq_in (zq_t3 (List.mem_of_getElem? (i := 131) rfl)) rfl, ⟨_, rfl, zq_in (zq_ts (List.mem_of_getElem? (i := 9) rfl)) rfl⟩, mi_X8_readOrder⟩
theorem mi_X8_readRule : zq_MI yX8_readRule 1 := ⟨zq_in (zq_t1 (List.mem_of_getElem? (i := 4) rfl)) rfl, ⟨by decide, by decide⟩, by decide +kernel⟩
theorem cw_X8_readRule : Cond.code yX8_readRule cX8_readRule 2 none ∈ zq_ws := zq_in (zq_t3 (List.mem_of_getElem? (i := 178) rfl)) rfl
theorem mv_X8_108 : zq_MV RX8 108 8 yX8_readRule 1 := ⟨zq_in (zq_t3 (List.mem_of_getElem? (i := 175) rfl)) rfl, zq_in (zq_t3 (List.mem_of_getElem? (i := 177) rfl)) rfl, ⟨_, rfl, zq_in (zq_ts (List.mem_of_getElem? (i := 19) rfl)) rfl⟩, mi_X8_readRule⟩
theorem fl_X8_111 : zq_FL RX8 111 1 5 := ⟨_, _, _, rfl, by decide, zq_in (zq_t3 (List.mem_of_getElem? (i := 114) rfl)) rfl⟩
theorem pl_X8_111 (nm : String) : zq_PL RX8 nm 111 1 5 := ⟨_, _, _, rfl, by decide, zq_in (zq_t3 (List.mem_of_getElem? (i := 114) rfl)) rfl, Or.inl rfl⟩
theorem mi_X8_readTest : zq_MI yX8_readTest 1 := ⟨zq_in (zq_t1 (List.mem_of_getElem? (i := 4) rfl)) rfl, ⟨by decide, by decide⟩, by decide +kernel⟩
theorem cw_X8_readTest : Cond.code yX8_readTest cX8_readTest 4 none ∈ zq_ws := zq_in (zq_t3 (List.mem_of_getElem? (i := 182) rfl)) rfl
theorem mv_X8_116 : zq_MV RX8 116 8 yX8_readTest 1 := ⟨zq_in (zq_t3 (List.mem_of_getElem? (i := 179) rfl)) rfl, zq_in (zq_t3 (List.mem_of_getElem? (i := 181) rfl)) rfl, ⟨_, rfl, zq_in (zq_ts (List.mem_of_getElem? (i := 20) rfl)) rfl⟩, mi_X8_readTest⟩
theorem mi_X8_emit : zq_MI yX8_emit 2 := ⟨zq_in (zq_t1 (List.mem_of_getElem? (i := 4) rfl)) rfl, ⟨by decide, by decide⟩, by decide +kernel⟩
theorem cw_X8_emit : Cond.code yX8_emit cX8_emit 3 none ∈ zq_ws := zq_in (zq_t3 (List.mem_of_getElem? (i := 174) rfl)) rfl
theorem mv_X8_122 : zq_MV RX8 122 8 yX8_emit 2 := ⟨zq_in (zq_t3 (List.mem_of_getElem? (i := 171) rfl)) rfl, zq_in (zq_t3 (List.mem_of_getElem? (i := 173) rfl)) rfl, ⟨_, rfl, zq_in (zq_ts (List.mem_of_getElem? (i := 18) rfl)) rfl⟩, mi_X8_emit⟩
theorem fl_X8_126 : zq_FL RX8 126 1 0 := ⟨_, _, _, rfl, by decide, zq_in (zq_t3 (List.mem_of_getElem? (i := 97) rfl)) rfl⟩
theorem pl_X8_126 (nm : String) : zq_PL RX8 nm 126 1 0 := ⟨_, _, _, rfl, by decide, zq_in (zq_t3 (List.mem_of_getElem? (i := 97) rfl)) rfl, Or.inl rfl⟩
theorem mi_X8_wholeSum : zq_MI yX8_wholeSum 0 := ⟨zq_in (zq_t1 (List.mem_of_getElem? (i := 4) rfl)) rfl, ⟨by decide, by decide⟩, by decide +kernel⟩
theorem cw_X8_wholeSum : Cond.code yX8_wholeSum cX8_wholeSum 2 (some .int) ∈ zq_ws := zq_in (zq_t3 (List.mem_of_getElem? (i := 140) rfl)) rfl
theorem mv_X8_129 : zq_MV RX8 129 8 yX8_wholeSum 0 := ⟨zq_in (zq_t3 (List.mem_of_getElem? (i := 137) rfl)) rfl, zq_in (zq_t3 (List.mem_of_getElem? (i := 139) rfl)) rfl, ⟨_, rfl, zq_in (zq_ts (List.mem_of_getElem? (i := 11) rfl)) rfl⟩, mi_X8_wholeSum⟩
theorem fl_X8_132 : zq_FL RX8 132 1 2 := ⟨_, _, _, rfl, by decide, zq_in (zq_t3 (List.mem_of_getElem? (i := 104) rfl)) rfl⟩
theorem pl_X8_132 (nm : String) : zq_PL RX8 nm 132 1 2 := ⟨_, _, _, rfl, by decide, zq_in (zq_t3 (List.mem_of_getElem? (i := 104) rfl)) rfl, Or.inl rfl⟩
theorem mi_X8_expect : zq_MI yX8_expect 1 := ⟨zq_in (zq_t1 (List.mem_of_getElem? (i := 4) rfl)) rfl, ⟨by decide, by decide⟩, by decide +kernel⟩
theorem cw_X8_expect : Cond.code yX8_expect cX8_expect 2 none ∈ zq_ws := zq_in (zq_t3 (List.mem_of_getElem? (i := 160) rfl)) rfl
theorem mv_X8_135 : zq_MV RX8 135 8 yX8_expect 1 := ⟨zq_in (zq_t3 (List.mem_of_getElem? (i := 157) rfl)) rfl, zq_in (zq_t3 (List.mem_of_getElem? (i := 159) rfl)) rfl, ⟨_, rfl, zq_in (zq_ts (List.mem_of_getElem? (i := 16) rfl)) rfl⟩, mi_X8_expect⟩
theorem fl_X8_138 : zq_FL RX8 138 1 3 := ⟨_, _, _, rfl, by decide, zq_in (zq_t3 (List.mem_of_getElem? (i := 107) rfl)) rfl⟩
theorem pl_X8_138 (nm : String) : zq_PL RX8 nm 138 1 3 := ⟨_, _, _, rfl, by decide, zq_in (zq_t3 (List.mem_of_getElem? (i := 107) rfl)) rfl, Or.inl rfl⟩
theorem fl_X8_141 : zq_FL RX8 141 1 4 := ⟨_, _, _, rfl, by decide, zq_in (zq_t3 (List.mem_of_getElem? (i := 110) rfl)) rfl⟩
theorem pl_X8_141 (nm : String) : zq_PL RX8 nm 141 1 4 := ⟨_, _, _, rfl, by decide, zq_in (zq_t3 (List.mem_of_getElem? (i := 110) rfl)) rfl, Or.inl rfl⟩
theorem mi_X8_numberWithin : zq_MI yX8_numberWithin 2 := ⟨zq_in (zq_t1 (List.mem_of_getElem? (i := 4) rfl)) rfl, ⟨by decide, by decide⟩, by decide +kernel⟩
theorem cw_X8_numberWithin : Cond.code yX8_numberWithin cX8_numberWithin 4 (some .int) ∈ zq_ws := zq_in (zq_t3 (List.mem_of_getElem? (i := 170) rfl)) rfl
theorem mv_X8_144 : zq_MV RX8 144 8 yX8_numberWithin 2 := ⟨zq_in (zq_t3 (List.mem_of_getElem? (i := 167) rfl)) rfl, zq_in (zq_t3 (List.mem_of_getElem? (i := 169) rfl)) rfl, ⟨_, rfl, zq_in (zq_ts (List.mem_of_getElem? (i := 17) rfl)) rfl⟩, mi_X8_numberWithin⟩
theorem fl_X8_147 : zq_FL RX8 147 1 1 := ⟨_, _, _, rfl, by decide, zq_in (zq_t3 (List.mem_of_getElem? (i := 100) rfl)) rfl⟩
theorem pl_X8_147 (nm : String) : zq_PL RX8 nm 147 1 1 := ⟨_, _, _, rfl, by decide, zq_in (zq_t3 (List.mem_of_getElem? (i := 100) rfl)) rfl, Or.inl rfl⟩
theorem mi_X8_readSum : zq_MI yX8_readSum 1 := ⟨zq_in (zq_t1 (List.mem_of_getElem? (i := 4) rfl)) rfl, ⟨by decide, by decide⟩, by decide +kernel⟩
theorem cw_X8_readSum : Cond.code yX8_readSum cX8_readSum 4 none ∈ zq_ws := zq_in (zq_t3 (List.mem_of_getElem? (i := 144) rfl)) rfl
theorem mv_X8_150 : zq_MV RX8 150 8 yX8_readSum 1 := ⟨zq_in (zq_t3 (List.mem_of_getElem? (i := 141) rfl)) rfl, zq_in (zq_t3 (List.mem_of_getElem? (i := 143) rfl)) rfl, ⟨_, rfl, zq_in (zq_ts (List.mem_of_getElem? (i := 12) rfl)) rfl⟩, mi_X8_readSum⟩
theorem mi_X8_readBoth : zq_MI yX8_readBoth 1 := ⟨zq_in (zq_t1 (List.mem_of_getElem? (i := 4) rfl)) rfl, ⟨by decide, by decide⟩, by decide +kernel⟩
theorem cw_X8_readBoth : Cond.code yX8_readBoth cX8_readBoth 4 none ∈ zq_ws := zq_in (zq_t3 (List.mem_of_getElem? (i := 186) rfl)) rfl
theorem mv_X8_153 : zq_MV RX8 153 8 yX8_readBoth 1 := ⟨zq_in (zq_t3 (List.mem_of_getElem? (i := 183) rfl)) rfl, zq_in (zq_t3 (List.mem_of_getElem? (i := 185) rfl)) rfl, ⟨_, rfl, zq_in (zq_ts (List.mem_of_getElem? (i := 21) rfl)) rfl⟩, mi_X8_readBoth⟩
theorem mi_X8_land : zq_MI yX8_land 2 := ⟨zq_in (zq_t1 (List.mem_of_getElem? (i := 4) rfl)) rfl, ⟨by decide, by decide⟩, by decide +kernel⟩
theorem cw_X8_land : Cond.code yX8_land cX8_land 3 none ∈ zq_ws := zq_in (zq_t3 (List.mem_of_getElem? (i := 198) rfl)) rfl
theorem mv_X8_156 : zq_MV RX8 156 8 yX8_land 2 := ⟨zq_in (zq_t3 (List.mem_of_getElem? (i := 195) rfl)) rfl, zq_in (zq_t3 (List.mem_of_getElem? (i := 197) rfl)) rfl, ⟨_, rfl, zq_in (zq_ts (List.mem_of_getElem? (i := 24) rfl)) rfl⟩, mi_X8_land⟩
theorem mi_X8_readPlain : zq_MI yX8_readPlain 1 := ⟨zq_in (zq_t1 (List.mem_of_getElem? (i := 4) rfl)) rfl, ⟨by decide, by decide⟩, by decide +kernel⟩
theorem cw_X8_readPlain : Cond.code yX8_readPlain cX8_readPlain 4 none ∈ zq_ws := zq_in (zq_t3 (List.mem_of_getElem? (i := 190) rfl)) rfl
theorem mv_X8_159 : zq_MV RX8 159 8 yX8_readPlain 1 := ⟨zq_in (zq_t3 (List.mem_of_getElem? (i := 187) rfl)) rfl, zq_in (zq_t3 (List.mem_of_getElem? (i := 189) rfl)) rfl, ⟨_, rfl, zq_in (zq_ts (List.mem_of_getElem? (i := 22) rfl)) rfl⟩, mi_X8_readPlain⟩
theorem mi_X8_readComparison : zq_MI yX8_readComparison 1 := ⟨zq_in (zq_t1 (List.mem_of_getElem? (i := 4) rfl)) rfl, ⟨by decide, by decide⟩, by decide +kernel⟩
theorem cw_X8_readComparison : Cond.code yX8_readComparison cX8_readComparison 3 none ∈ zq_ws := zq_in (zq_t3 (List.mem_of_getElem? (i := 194) rfl)) rfl
theorem mv_X8_162 : zq_MV RX8 162 8 yX8_readComparison 1 := ⟨zq_in (zq_t3 (List.mem_of_getElem? (i := 191) rfl)) rfl, zq_in (zq_t3 (List.mem_of_getElem? (i := 193) rfl)) rfl, ⟨_, rfl, zq_in (zq_ts (List.mem_of_getElem? (i := 23) rfl)) rfl⟩, mi_X8_readComparison⟩
theorem mi_X8_opens : zq_MI yX8_opens 1 := ⟨zq_in (zq_t1 (List.mem_of_getElem? (i := 4) rfl)) rfl, ⟨by decide, by decide⟩, by decide +kernel⟩
theorem cw_X8_opens : Cond.code yX8_opens cX8_opens 2 (some .boolean) ∈ zq_ws := zq_in (zq_t3 (List.mem_of_getElem? (i := 156) rfl)) rfl
theorem mv_X8_165 : zq_MV RX8 165 8 yX8_opens 1 := ⟨zq_in (zq_t3 (List.mem_of_getElem? (i := 153) rfl)) rfl, zq_in (zq_t3 (List.mem_of_getElem? (i := 155) rfl)) rfl, ⟨_, rfl, zq_in (zq_ts (List.mem_of_getElem? (i := 15) rfl)) rfl⟩, mi_X8_opens⟩
theorem mi_X8_readTerm : zq_MI yX8_readTerm 1 := ⟨zq_in (zq_t1 (List.mem_of_getElem? (i := 4) rfl)) rfl, ⟨by decide, by decide⟩, by decide +kernel⟩
theorem cw_X8_readTerm : Cond.code yX8_readTerm cX8_readTerm 4 none ∈ zq_ws := zq_in (zq_t3 (List.mem_of_getElem? (i := 148) rfl)) rfl
theorem mv_X8_169 : zq_MV RX8 169 8 yX8_readTerm 1 := ⟨zq_in (zq_t3 (List.mem_of_getElem? (i := 145) rfl)) rfl, zq_in (zq_t3 (List.mem_of_getElem? (i := 147) rfl)) rfl, ⟨_, rfl, zq_in (zq_ts (List.mem_of_getElem? (i := 13) rfl)) rfl⟩, mi_X8_readTerm⟩
theorem mi_X8_readPart : zq_MI yX8_readPart 1 := ⟨zq_in (zq_t1 (List.mem_of_getElem? (i := 4) rfl)) rfl, ⟨by decide, by decide⟩, by decide +kernel⟩
theorem cw_X8_readPart : Cond.code yX8_readPart cX8_readPart 4 none ∈ zq_ws := zq_in (zq_t3 (List.mem_of_getElem? (i := 152) rfl)) rfl
theorem mv_X8_172 : zq_MV RX8 172 8 yX8_readPart 1 := ⟨zq_in (zq_t3 (List.mem_of_getElem? (i := 149) rfl)) rfl, zq_in (zq_t3 (List.mem_of_getElem? (i := 151) rfl)) rfl, ⟨_, rfl, zq_in (zq_ts (List.mem_of_getElem? (i := 14) rfl)) rfl⟩, mi_X8_readPart⟩
theorem mi_X8_orderWord : zq_MI yX8_orderWord 1 := ⟨zq_in (zq_t1 (List.mem_of_getElem? (i := 4) rfl)) rfl, ⟨by decide, by decide⟩, by decide +kernel⟩
theorem cw_X8_orderWord : Cond.code yX8_orderWord cX8_orderWord 1 (some .int) ∈ zq_ws := zq_in (zq_t3 (List.mem_of_getElem? (i := 163) rfl)) rfl
theorem ms_X8_175 : zq_MS RX8 175 yX8_orderWord 1 := ⟨Or.inl (zq_in (zq_t3 (List.mem_of_getElem? (i := 161) rfl)) rfl), zq_in (zq_t3 (List.mem_of_getElem? (i := 162) rfl)) rfl, mi_X8_orderWord⟩
theorem mi_X8_lawWord : zq_MI yX8_lawWord 1 := ⟨zq_in (zq_t1 (List.mem_of_getElem? (i := 4) rfl)) rfl, ⟨by decide, by decide⟩, by decide +kernel⟩
theorem cw_X8_lawWord : Cond.code yX8_lawWord cX8_lawWord 1 (some .int) ∈ zq_ws := zq_in (zq_t3 (List.mem_of_getElem? (i := 166) rfl)) rfl
theorem ms_X8_178 : zq_MS RX8 178 yX8_lawWord 1 := ⟨Or.inl (zq_in (zq_t3 (List.mem_of_getElem? (i := 164) rfl)) rfl), zq_in (zq_t3 (List.mem_of_getElem? (i := 165) rfl)) rfl, mi_X8_lawWord⟩
theorem oi_X9_3 : Cond.methodLink RX9 3 Lib.objectInit ∈ zq_ws := zq_in (zq_t1 (List.mem_of_getElem? (i := 160) rfl)) rfl
theorem fl_X9_9 : zq_FL RX9 9 9 0 := ⟨_, _, _, rfl, by decide, zq_in (zq_t1 (List.mem_of_getElem? (i := 161) rfl)) rfl⟩
theorem pl_X9_9 : zq_PL RX9 "<init>" 9 9 0 := ⟨_, _, _, rfl, by decide, zq_in (zq_t1 (List.mem_of_getElem? (i := 161) rfl)) rfl, Or.inr ⟨rfl, rfl, rfl⟩⟩
theorem fl_X9_15 : zq_FL RX9 15 10 2 := ⟨_, _, _, rfl, by decide, zq_in (zq_t3 (List.mem_of_getElem? (i := 68) rfl)) rfl⟩
theorem pl_X9_15 (nm : String) : zq_PL RX9 nm 15 10 2 := ⟨_, _, _, rfl, by decide, zq_in (zq_t3 (List.mem_of_getElem? (i := 68) rfl)) rfl, Or.inl rfl⟩
theorem kc_X9_20 : Cond.constant RX9 20 (-2000000000) ∈ zq_ws := zq_in (zq_t2 (List.mem_of_getElem? (i := 131) rfl)) rfl
theorem mi_X9_ofTwo : zq_MI yX9_ofTwo 3 := ⟨zq_in (zq_t1 (List.mem_of_getElem? (i := 6) rfl)) rfl, ⟨by decide, by decide⟩, by decide +kernel⟩
theorem cw_X9_ofTwo : Cond.code yX9_ofTwo cX9_ofTwo 5 (some .int) ∈ zq_ws := zq_in (zq_t2 (List.mem_of_getElem? (i := 134) rfl)) rfl
theorem ms_X9_21 : zq_MS RX9 21 yX9_ofTwo 3 := ⟨Or.inl (zq_in (zq_t2 (List.mem_of_getElem? (i := 132) rfl)) rfl), zq_in (zq_t2 (List.mem_of_getElem? (i := 133) rfl)) rfl, mi_X9_ofTwo⟩
theorem kl_X9_25 : Cond.constantLong RX9 25 (-1000000000) ∈ zq_ws := zq_in (zq_t2 (List.mem_of_getElem? (i := 135) rfl)) rfl
theorem kl_X9_27 : Cond.constantLong RX9 27 (1000000000) ∈ zq_ws := zq_in (zq_t2 (List.mem_of_getElem? (i := 136) rfl)) rfl
theorem oi_X10_3 : Cond.methodLink RX10 3 Lib.objectInit ∈ zq_ws := zq_in (zq_t3 (List.mem_of_getElem? (i := 57) rfl)) rfl
theorem cl_X10_9 : Cond.classLink RX10 9 RX1 ∈ zq_ws := zq_in (zq_t3 (List.mem_of_getElem? (i := 58) rfl)) rfl
theorem fl_X10_11 : zq_FL RX10 11 10 0 := ⟨_, _, _, rfl, by decide, zq_in (zq_t3 (List.mem_of_getElem? (i := 60) rfl)) rfl⟩
theorem pl_X10_11 : zq_PL RX10 "<init>" 11 10 0 := ⟨_, _, _, rfl, by decide, zq_in (zq_t3 (List.mem_of_getElem? (i := 60) rfl)) rfl, Or.inr ⟨rfl, rfl, rfl⟩⟩
theorem fl_X10_17 : zq_FL RX10 17 10 1 := ⟨_, _, _, rfl, by decide, zq_in (zq_t3 (List.mem_of_getElem? (i := 63) rfl)) rfl⟩
theorem pl_X10_17 (nm : String) : zq_PL RX10 nm 17 10 1 := ⟨_, _, _, rfl, by decide, zq_in (zq_t3 (List.mem_of_getElem? (i := 63) rfl)) rfl, Or.inl rfl⟩
theorem fl_X10_21 : zq_FL RX10 21 10 2 := ⟨_, _, _, rfl, by decide, zq_in (zq_t3 (List.mem_of_getElem? (i := 67) rfl)) rfl⟩
theorem pl_X10_21 (nm : String) : zq_PL RX10 nm 21 10 2 := ⟨_, _, _, rfl, by decide, zq_in (zq_t3 (List.mem_of_getElem? (i := 67) rfl)) rfl, Or.inl rfl⟩
theorem mi_X1_init : zq_MI yX1_init 0 := ⟨zq_in (zq_t1 (List.mem_of_getElem? (i := 18) rfl)) rfl, ⟨by decide, by decide⟩, by decide +kernel⟩
theorem cw_X1_init : Cond.code yX1_init cX1_init 1 none ∈ zq_ws := zq_in (zq_t3 (List.mem_of_getElem? (i := 93) rfl)) rfl
theorem mc_X10_25 : zq_MC RX10 25 yX1_init 0 := ⟨Or.inr (by decide +kernel), rfl, zq_in (zq_t3 (List.mem_of_getElem? (i := 92) rfl)) rfl, mi_X1_init⟩
