/-! ===== what the entries of the constant pools name, by program ===== -/
theorem cl_L_7 : Cond.classLink RL 7 RX11 ∈ zq_ws := zq_in (zq_t1 (List.mem_of_getElem? (i := 22) rfl)) rfl
theorem mi_X11_init : zq_MI yX11_init 0 := ⟨zq_in (zq_t1 (List.mem_of_getElem? (i := 1) rfl)) rfl, ⟨by decide, by decide⟩, by decide +kernel⟩
theorem cw_X11_init : Cond.code yX11_init cX11_init 1 none ∈ zq_ws := zq_in (zq_t1 (List.mem_of_getElem? (i := 26) rfl)) rfl
theorem mc_L_9 : zq_MC RL 9 yX11_init 0 := ⟨Or.inl (zq_in (zq_t1 (List.mem_of_getElem? (i := 24) rfl)) rfl), rfl, zq_in (zq_t1 (List.mem_of_getElem? (i := 25) rfl)) rfl, mi_X11_init⟩
theorem cl_L_10 : Cond.classLink RL 10 RX12 ∈ zq_ws := zq_in (zq_t5 (List.mem_of_getElem? (i := 109) rfl)) rfl
theorem mi_X12_init : zq_MI yX12_init 0 := ⟨zq_in (zq_t1 (List.mem_of_getElem? (i := 10) rfl)) rfl, ⟨by decide, by decide⟩, by decide +kernel⟩
theorem cw_X12_init : Cond.code yX12_init cX12_init 2 none ∈ zq_ws := zq_in (zq_t5 (List.mem_of_getElem? (i := 113) rfl)) rfl
theorem mc_L_12 : zq_MC RL 12 yX12_init 0 := ⟨Or.inl (zq_in (zq_t5 (List.mem_of_getElem? (i := 111) rfl)) rfl), rfl, zq_in (zq_t5 (List.mem_of_getElem? (i := 112) rfl)) rfl, mi_X12_init⟩
theorem mi_X11_person : zq_MI yX11_person 1 := ⟨zq_in (zq_t1 (List.mem_of_getElem? (i := 1) rfl)) rfl, ⟨by decide, by decide⟩, by decide +kernel⟩
theorem cw_X11_person : Cond.code yX11_person cX11_person 2 (some .int) ∈ zq_ws := zq_in (zq_t2 (List.mem_of_getElem? (i := 50) rfl)) rfl
theorem mv_L_13 : zq_MV RL 13 11 yX11_person 1 := ⟨zq_in (zq_t2 (List.mem_of_getElem? (i := 47) rfl)) rfl, zq_in (zq_t2 (List.mem_of_getElem? (i := 48) rfl)) rfl, ⟨_, rfl, zq_in (zq_t2 (List.mem_of_getElem? (i := 49) rfl)) rfl⟩, mi_X11_person⟩
theorem mi_X12_person : zq_MI yX12_person 1 := ⟨zq_in (zq_t1 (List.mem_of_getElem? (i := 10) rfl)) rfl, ⟨by decide, by decide⟩, by decide +kernel⟩
theorem cw_X12_person : Cond.code yX12_person cX12_person 2 (some .int) ∈ zq_ws := zq_in (zq_t6 (List.mem_of_getElem? (i := 72) rfl)) rfl
theorem mv_L_17 : zq_MV RL 17 12 yX12_person 1 := ⟨zq_in (zq_t6 (List.mem_of_getElem? (i := 69) rfl)) rfl, zq_in (zq_t6 (List.mem_of_getElem? (i := 70) rfl)) rfl, ⟨_, rfl, zq_in (zq_t6 (List.mem_of_getElem? (i := 71) rfl)) rfl⟩, mi_X12_person⟩
theorem mi_X11_of : zq_MI yX11_of 2 := ⟨zq_in (zq_t1 (List.mem_of_getElem? (i := 1) rfl)) rfl, ⟨by decide, by decide⟩, by decide +kernel⟩
theorem cw_X11_of : Cond.code yX11_of cX11_of 3 (some .int) ∈ zq_ws := zq_in (zq_t2 (List.mem_of_getElem? (i := 90) rfl)) rfl
theorem mv_L_18 : zq_MV RL 18 11 yX11_of 2 := ⟨zq_in (zq_t2 (List.mem_of_getElem? (i := 87) rfl)) rfl, zq_in (zq_t2 (List.mem_of_getElem? (i := 88) rfl)) rfl, ⟨_, rfl, zq_in (zq_t2 (List.mem_of_getElem? (i := 89) rfl)) rfl⟩, mi_X11_of⟩
theorem mv_L_22 : zq_MV RL 22 12 yX12_of 2 := ⟨zq_in (zq_t6 (List.mem_of_getElem? (i := 96) rfl)) rfl, zq_in (zq_t6 (List.mem_of_getElem? (i := 97) rfl)) rfl, ⟨_, rfl, zq_in (zq_t6 (List.mem_of_getElem? (i := 98) rfl)) rfl⟩, mi_X12_of⟩
theorem mi_X11_at : zq_MI yX11_at 1 := ⟨zq_in (zq_t1 (List.mem_of_getElem? (i := 1) rfl)) rfl, ⟨by decide, by decide⟩, by decide +kernel⟩
theorem cw_X11_at : Cond.code yX11_at cX11_at 2 (some .int) ∈ zq_ws := zq_in (zq_t2 (List.mem_of_getElem? (i := 148) rfl)) rfl
theorem mv_L_23 : zq_MV RL 23 11 yX11_at 1 := ⟨zq_in (zq_t2 (List.mem_of_getElem? (i := 145) rfl)) rfl, zq_in (zq_t2 (List.mem_of_getElem? (i := 146) rfl)) rfl, ⟨_, rfl, zq_in (zq_t2 (List.mem_of_getElem? (i := 147) rfl)) rfl⟩, mi_X11_at⟩
theorem mv_L_26 : zq_MV RL 26 12 yX12_at 1 := ⟨zq_in (zq_t6 (List.mem_of_getElem? (i := 202) rfl)) rfl, zq_in (zq_t6 (List.mem_of_getElem? (i := 148) rfl)) rfl, ⟨_, rfl, zq_in (zq_t6 (List.mem_of_getElem? (i := 149) rfl)) rfl⟩, mi_X12_at⟩
theorem mi_X11_asks : zq_MI yX11_asks 3 := ⟨zq_in (zq_t1 (List.mem_of_getElem? (i := 1) rfl)) rfl, ⟨by decide, by decide⟩, by decide +kernel⟩
theorem cw_X11_asks : Cond.code yX11_asks cX11_asks 5 (some .int) ∈ zq_ws := zq_in (zq_t2 (List.mem_of_getElem? (i := 152) rfl)) rfl
theorem mv_L_27 : zq_MV RL 27 11 yX11_asks 3 := ⟨zq_in (zq_t2 (List.mem_of_getElem? (i := 149) rfl)) rfl, zq_in (zq_t2 (List.mem_of_getElem? (i := 150) rfl)) rfl, ⟨_, rfl, zq_in (zq_t2 (List.mem_of_getElem? (i := 151) rfl)) rfl⟩, mi_X11_asks⟩
theorem mi_X12_asks : zq_MI yX12_asks 3 := ⟨zq_in (zq_t1 (List.mem_of_getElem? (i := 10) rfl)) rfl, ⟨by decide, by decide⟩, by decide +kernel⟩
theorem cw_X12_asks : Cond.code yX12_asks cX12_asks 4 (some .int) ∈ zq_ws := zq_in (zq_t6 (List.mem_of_getElem? (i := 206) rfl)) rfl
theorem mv_L_31 : zq_MV RL 31 12 yX12_asks 3 := ⟨zq_in (zq_t6 (List.mem_of_getElem? (i := 203) rfl)) rfl, zq_in (zq_t6 (List.mem_of_getElem? (i := 204) rfl)) rfl, ⟨_, rfl, zq_in (zq_t6 (List.mem_of_getElem? (i := 205) rfl)) rfl⟩, mi_X12_asks⟩
theorem mi_X11_says : zq_MI yX11_says 3 := ⟨zq_in (zq_t1 (List.mem_of_getElem? (i := 1) rfl)) rfl, ⟨by decide, by decide⟩, by decide +kernel⟩
theorem cw_X11_says : Cond.code yX11_says cX11_says 5 (some .int) ∈ zq_ws := zq_in (zq_t2 (List.mem_of_getElem? (i := 174) rfl)) rfl
theorem mv_L_32 : zq_MV RL 32 11 yX11_says 3 := ⟨zq_in (zq_t2 (List.mem_of_getElem? (i := 171) rfl)) rfl, zq_in (zq_t2 (List.mem_of_getElem? (i := 172) rfl)) rfl, ⟨_, rfl, zq_in (zq_t2 (List.mem_of_getElem? (i := 173) rfl)) rfl⟩, mi_X11_says⟩
theorem mi_X12_says : zq_MI yX12_says 3 := ⟨zq_in (zq_t1 (List.mem_of_getElem? (i := 10) rfl)) rfl, ⟨by decide, by decide⟩, by decide +kernel⟩
theorem cw_X12_says : Cond.code yX12_says cX12_says 6 (some .int) ∈ zq_ws := zq_in (zq_t6 (List.mem_of_getElem? (i := 214) rfl)) rfl
theorem mv_L_35 : zq_MV RL 35 12 yX12_says 3 := ⟨zq_in (zq_t6 (List.mem_of_getElem? (i := 211) rfl)) rfl, zq_in (zq_t6 (List.mem_of_getElem? (i := 212) rfl)) rfl, ⟨_, rfl, zq_in (zq_t6 (List.mem_of_getElem? (i := 213) rfl)) rfl⟩, mi_X12_says⟩
theorem mi_X11_alphabet : zq_MI yX11_alphabet 0 := ⟨zq_in (zq_t1 (List.mem_of_getElem? (i := 1) rfl)) rfl, ⟨by decide, by decide⟩, by decide +kernel⟩
theorem cw_X11_alphabet : Cond.code yX11_alphabet cX11_alphabet 1 (some .int) ∈ zq_ws := zq_in (zq_t2 (List.mem_of_getElem? (i := 183) rfl)) rfl
theorem mv_L_36 : zq_MV RL 36 11 yX11_alphabet 0 := ⟨zq_in (zq_t2 (List.mem_of_getElem? (i := 180) rfl)) rfl, zq_in (zq_t2 (List.mem_of_getElem? (i := 181) rfl)) rfl, ⟨_, rfl, zq_in (zq_t2 (List.mem_of_getElem? (i := 182) rfl)) rfl⟩, mi_X11_alphabet⟩
theorem mv_L_40 : zq_MV RL 40 12 yX12_alphabet 0 := ⟨zq_in (zq_t6 (List.mem_of_getElem? (i := 215) rfl)) rfl, zq_in (zq_t6 (List.mem_of_getElem? (i := 216) rfl)) rfl, ⟨_, rfl, zq_in (zq_t6 (List.mem_of_getElem? (i := 217) rfl)) rfl⟩, mi_X12_alphabet⟩
theorem mi_X11_terms : zq_MI yX11_terms 2 := ⟨zq_in (zq_t1 (List.mem_of_getElem? (i := 1) rfl)) rfl, ⟨by decide, by decide⟩, by decide +kernel⟩
theorem cw_X11_terms : Cond.code yX11_terms cX11_terms 4 (some .int) ∈ zq_ws := zq_in (zq_t2 (List.mem_of_getElem? (i := 191) rfl)) rfl
theorem mv_L_41 : zq_MV RL 41 11 yX11_terms 2 := ⟨zq_in (zq_t2 (List.mem_of_getElem? (i := 188) rfl)) rfl, zq_in (zq_t2 (List.mem_of_getElem? (i := 189) rfl)) rfl, ⟨_, rfl, zq_in (zq_t2 (List.mem_of_getElem? (i := 190) rfl)) rfl⟩, mi_X11_terms⟩
theorem mi_X12_terms : zq_MI yX12_terms 2 := ⟨zq_in (zq_t1 (List.mem_of_getElem? (i := 10) rfl)) rfl, ⟨by decide, by decide⟩, by decide +kernel⟩
theorem cw_X12_terms : Cond.code yX12_terms cX12_terms 4 (some .int) ∈ zq_ws := zq_in (zq_t6 (List.mem_of_getElem? (i := 222) rfl)) rfl
theorem mv_L_44 : zq_MV RL 44 12 yX12_terms 2 := ⟨zq_in (zq_t6 (List.mem_of_getElem? (i := 219) rfl)) rfl, zq_in (zq_t6 (List.mem_of_getElem? (i := 220) rfl)) rfl, ⟨_, rfl, zq_in (zq_t6 (List.mem_of_getElem? (i := 221) rfl)) rfl⟩, mi_X12_terms⟩
theorem mi_X11_feed : zq_MI yX11_feed 5 := ⟨zq_in (zq_t1 (List.mem_of_getElem? (i := 1) rfl)) rfl, ⟨by decide, by decide⟩, by decide +kernel⟩
theorem cw_X11_feed : Cond.code yX11_feed cX11_feed 6 (some .int) ∈ zq_ws := zq_in (zq_t2 (List.mem_of_getElem? (i := 197) rfl)) rfl
theorem mv_L_45 : zq_MV RL 45 11 yX11_feed 5 := ⟨zq_in (zq_t2 (List.mem_of_getElem? (i := 194) rfl)) rfl, zq_in (zq_t2 (List.mem_of_getElem? (i := 195) rfl)) rfl, ⟨_, rfl, zq_in (zq_t2 (List.mem_of_getElem? (i := 196) rfl)) rfl⟩, mi_X11_feed⟩
theorem mi_X12_feed : zq_MI yX12_feed 5 := ⟨zq_in (zq_t1 (List.mem_of_getElem? (i := 10) rfl)) rfl, ⟨by decide, by decide⟩, by decide +kernel⟩
theorem cw_X12_feed : Cond.code yX12_feed cX12_feed 7 (some .int) ∈ zq_ws := zq_in (zq_t7 (List.mem_of_getElem? (i := 4) rfl)) rfl
theorem mv_L_49 : zq_MV RL 49 12 yX12_feed 5 := ⟨zq_in (zq_t7 (List.mem_of_getElem? (i := 1) rfl)) rfl, zq_in (zq_t7 (List.mem_of_getElem? (i := 2) rfl)) rfl, ⟨_, rfl, zq_in (zq_t7 (List.mem_of_getElem? (i := 3) rfl)) rfl⟩, mi_X12_feed⟩
theorem mi_X11_end : zq_MI yX11_end 1 := ⟨zq_in (zq_t1 (List.mem_of_getElem? (i := 1) rfl)) rfl, ⟨by decide, by decide⟩, by decide +kernel⟩
theorem cw_X11_end : Cond.code yX11_end cX11_end 2 (some .int) ∈ zq_ws := zq_in (zq_t2 (List.mem_of_getElem? (i := 205) rfl)) rfl
theorem mv_L_50 : zq_MV RL 50 11 yX11_end 1 := ⟨zq_in (zq_t2 (List.mem_of_getElem? (i := 202) rfl)) rfl, zq_in (zq_t2 (List.mem_of_getElem? (i := 203) rfl)) rfl, ⟨_, rfl, zq_in (zq_t2 (List.mem_of_getElem? (i := 204) rfl)) rfl⟩, mi_X11_end⟩
theorem mi_X12_end : zq_MI yX12_end 1 := ⟨zq_in (zq_t1 (List.mem_of_getElem? (i := 10) rfl)) rfl, ⟨by decide, by decide⟩, by decide +kernel⟩
theorem cw_X12_end : Cond.code yX12_end cX12_end 2 (some .int) ∈ zq_ws := zq_in (zq_t7 (List.mem_of_getElem? (i := 8) rfl)) rfl
theorem mv_L_53 : zq_MV RL 53 12 yX12_end 1 := ⟨zq_in (zq_t7 (List.mem_of_getElem? (i := 5) rfl)) rfl, zq_in (zq_t7 (List.mem_of_getElem? (i := 6) rfl)) rfl, ⟨_, rfl, zq_in (zq_t7 (List.mem_of_getElem? (i := 7) rfl)) rfl⟩, mi_X12_end⟩
theorem mi_X11_row : zq_MI yX11_row 0 := ⟨zq_in (zq_t1 (List.mem_of_getElem? (i := 1) rfl)) rfl, ⟨by decide, by decide⟩, by decide +kernel⟩
theorem cw_X11_row : Cond.code yX11_row cX11_row 5 (some .int) ∈ zq_ws := zq_in (zq_t2 (List.mem_of_getElem? (i := 209) rfl)) rfl
theorem mv_L_54 : zq_MV RL 54 11 yX11_row 0 := ⟨zq_in (zq_t2 (List.mem_of_getElem? (i := 206) rfl)) rfl, zq_in (zq_t2 (List.mem_of_getElem? (i := 207) rfl)) rfl, ⟨_, rfl, zq_in (zq_t2 (List.mem_of_getElem? (i := 208) rfl)) rfl⟩, mi_X11_row⟩
theorem mi_X12_row : zq_MI yX12_row 0 := ⟨zq_in (zq_t1 (List.mem_of_getElem? (i := 10) rfl)) rfl, ⟨by decide, by decide⟩, by decide +kernel⟩
theorem cw_X12_row : Cond.code yX12_row cX12_row 6 (some .int) ∈ zq_ws := zq_in (zq_t6 (List.mem_of_getElem? (i := 232) rfl)) rfl
theorem mv_L_57 : zq_MV RL 57 12 yX12_row 0 := ⟨zq_in (zq_t6 (List.mem_of_getElem? (i := 229) rfl)) rfl, zq_in (zq_t6 (List.mem_of_getElem? (i := 230) rfl)) rfl, ⟨_, rfl, zq_in (zq_t6 (List.mem_of_getElem? (i := 231) rfl)) rfl⟩, mi_X12_row⟩
theorem mi_X11_misprints : zq_MI yX11_misprints 0 := ⟨zq_in (zq_t1 (List.mem_of_getElem? (i := 1) rfl)) rfl, ⟨by decide, by decide⟩, by decide +kernel⟩
theorem cw_X11_misprints : Cond.code yX11_misprints cX11_misprints 1 (some .int) ∈ zq_ws := zq_in (zq_t2 (List.mem_of_getElem? (i := 217) rfl)) rfl
theorem mv_L_58 : zq_MV RL 58 11 yX11_misprints 0 := ⟨zq_in (zq_t2 (List.mem_of_getElem? (i := 214) rfl)) rfl, zq_in (zq_t2 (List.mem_of_getElem? (i := 215) rfl)) rfl, ⟨_, rfl, zq_in (zq_t2 (List.mem_of_getElem? (i := 216) rfl)) rfl⟩, mi_X11_misprints⟩
theorem mi_X12_misprints : zq_MI yX12_misprints 0 := ⟨zq_in (zq_t1 (List.mem_of_getElem? (i := 10) rfl)) rfl, ⟨by decide, by decide⟩, by decide +kernel⟩
theorem cw_X12_misprints : Cond.code yX12_misprints cX12_misprints 1 (some .int) ∈ zq_ws := zq_in (zq_t7 (List.mem_of_getElem? (i := 0) rfl)) rfl
theorem mv_L_61 : zq_MV RL 61 12 yX12_misprints 0 := ⟨zq_in (zq_t6 (List.mem_of_getElem? (i := 237) rfl)) rfl, zq_in (zq_t6 (List.mem_of_getElem? (i := 238) rfl)) rfl, ⟨_, rfl, zq_in (zq_t6 (List.mem_of_getElem? (i := 239) rfl)) rfl⟩, mi_X12_misprints⟩
theorem mi_X11_law : zq_MI yX11_law 0 := ⟨zq_in (zq_t1 (List.mem_of_getElem? (i := 1) rfl)) rfl, ⟨by decide, by decide⟩, by decide +kernel⟩
theorem cw_X11_law : Cond.code yX11_law cX11_law 3 (some .int) ∈ zq_ws := zq_in (zq_t2 (List.mem_of_getElem? (i := 221) rfl)) rfl
theorem mv_L_62 : zq_MV RL 62 11 yX11_law 0 := ⟨zq_in (zq_t2 (List.mem_of_getElem? (i := 218) rfl)) rfl, zq_in (zq_t2 (List.mem_of_getElem? (i := 219) rfl)) rfl, ⟨_, rfl, zq_in (zq_t2 (List.mem_of_getElem? (i := 220) rfl)) rfl⟩, mi_X11_law⟩
theorem mi_X12_law : zq_MI yX12_law 0 := ⟨zq_in (zq_t1 (List.mem_of_getElem? (i := 10) rfl)) rfl, ⟨by decide, by decide⟩, by decide +kernel⟩
theorem cw_X12_law : Cond.code yX12_law cX12_law 1 (some .int) ∈ zq_ws := zq_in (zq_t7 (List.mem_of_getElem? (i := 12) rfl)) rfl
theorem mv_L_65 : zq_MV RL 65 12 yX12_law 0 := ⟨zq_in (zq_t7 (List.mem_of_getElem? (i := 9) rfl)) rfl, zq_in (zq_t7 (List.mem_of_getElem? (i := 10) rfl)) rfl, ⟨_, rfl, zq_in (zq_t7 (List.mem_of_getElem? (i := 11) rfl)) rfl⟩, mi_X12_law⟩
theorem mi_X11_orders : zq_MI yX11_orders 0 := ⟨zq_in (zq_t1 (List.mem_of_getElem? (i := 1) rfl)) rfl, ⟨by decide, by decide⟩, by decide +kernel⟩
theorem cw_X11_orders : Cond.code yX11_orders cX11_orders 4 (some .int) ∈ zq_ws := zq_in (zq_t3 (List.mem_of_getElem? (i := 224) rfl)) rfl
theorem mv_L_66 : zq_MV RL 66 11 yX11_orders 0 := ⟨zq_in (zq_t3 (List.mem_of_getElem? (i := 221) rfl)) rfl, zq_in (zq_t3 (List.mem_of_getElem? (i := 222) rfl)) rfl, ⟨_, rfl, zq_in (zq_t3 (List.mem_of_getElem? (i := 223) rfl)) rfl⟩, mi_X11_orders⟩
theorem mi_X12_orders : zq_MI yX12_orders 0 := ⟨zq_in (zq_t1 (List.mem_of_getElem? (i := 10) rfl)) rfl, ⟨by decide, by decide⟩, by decide +kernel⟩
theorem cw_X12_orders : Cond.code yX12_orders cX12_orders 5 (some .int) ∈ zq_ws := zq_in (zq_t8 (List.mem_of_getElem? (i := 70) rfl)) rfl
theorem mv_L_69 : zq_MV RL 69 12 yX12_orders 0 := ⟨zq_in (zq_t8 (List.mem_of_getElem? (i := 67) rfl)) rfl, zq_in (zq_t8 (List.mem_of_getElem? (i := 68) rfl)) rfl, ⟨_, rfl, zq_in (zq_t8 (List.mem_of_getElem? (i := 69) rfl)) rfl⟩, mi_X12_orders⟩
theorem mi_X11_fault : zq_MI yX11_fault 0 := ⟨zq_in (zq_t1 (List.mem_of_getElem? (i := 1) rfl)) rfl, ⟨by decide, by decide⟩, by decide +kernel⟩
theorem cw_X11_fault : Cond.code yX11_fault cX11_fault 1 (some .int) ∈ zq_ws := zq_in (zq_t4 (List.mem_of_getElem? (i := 73) rfl)) rfl
theorem mv_L_70 : zq_MV RL 70 11 yX11_fault 0 := ⟨zq_in (zq_t4 (List.mem_of_getElem? (i := 70) rfl)) rfl, zq_in (zq_t4 (List.mem_of_getElem? (i := 71) rfl)) rfl, ⟨_, rfl, zq_in (zq_t4 (List.mem_of_getElem? (i := 72) rfl)) rfl⟩, mi_X11_fault⟩
theorem mi_X12_fault : zq_MI yX12_fault 0 := ⟨zq_in (zq_t1 (List.mem_of_getElem? (i := 10) rfl)) rfl, ⟨by decide, by decide⟩, by decide +kernel⟩
theorem cw_X12_fault : Cond.code yX12_fault cX12_fault 1 (some .int) ∈ zq_ws := zq_in (zq_t7 (List.mem_of_getElem? (i := 103) rfl)) rfl
theorem mv_L_73 : zq_MV RL 73 12 yX12_fault 0 := ⟨zq_in (zq_t7 (List.mem_of_getElem? (i := 100) rfl)) rfl, zq_in (zq_t7 (List.mem_of_getElem? (i := 101) rfl)) rfl, ⟨_, rfl, zq_in (zq_t7 (List.mem_of_getElem? (i := 102) rfl)) rfl⟩, mi_X12_fault⟩
theorem mi_X11_stopped : zq_MI yX11_stopped 0 := ⟨zq_in (zq_t1 (List.mem_of_getElem? (i := 1) rfl)) rfl, ⟨by decide, by decide⟩, by decide +kernel⟩
theorem cw_X11_stopped : Cond.code yX11_stopped cX11_stopped 1 (some .int) ∈ zq_ws := zq_in (zq_t4 (List.mem_of_getElem? (i := 77) rfl)) rfl
theorem mv_L_74 : zq_MV RL 74 11 yX11_stopped 0 := ⟨zq_in (zq_t4 (List.mem_of_getElem? (i := 74) rfl)) rfl, zq_in (zq_t4 (List.mem_of_getElem? (i := 75) rfl)) rfl, ⟨_, rfl, zq_in (zq_t4 (List.mem_of_getElem? (i := 76) rfl)) rfl⟩, mi_X11_stopped⟩
theorem mi_X12_stopped : zq_MI yX12_stopped 0 := ⟨zq_in (zq_t1 (List.mem_of_getElem? (i := 10) rfl)) rfl, ⟨by decide, by decide⟩, by decide +kernel⟩
theorem cw_X12_stopped : Cond.code yX12_stopped cX12_stopped 1 (some .int) ∈ zq_ws := zq_in (zq_t8 (List.mem_of_getElem? (i := 66) rfl)) rfl
theorem mv_L_77 : zq_MV RL 77 12 yX12_stopped 0 := ⟨zq_in (zq_t8 (List.mem_of_getElem? (i := 63) rfl)) rfl, zq_in (zq_t8 (List.mem_of_getElem? (i := 64) rfl)) rfl, ⟨_, rfl, zq_in (zq_t8 (List.mem_of_getElem? (i := 65) rfl)) rfl⟩, mi_X12_stopped⟩
theorem mi_X11_force : zq_MI yX11_force 1 := ⟨zq_in (zq_t1 (List.mem_of_getElem? (i := 1) rfl)) rfl, ⟨by decide, by decide⟩, by decide +kernel⟩
theorem cw_X11_force : Cond.code yX11_force cX11_force 3 (some .int) ∈ zq_ws := zq_in (zq_t4 (List.mem_of_getElem? (i := 81) rfl)) rfl
theorem mv_L_78 : zq_MV RL 78 11 yX11_force 1 := ⟨zq_in (zq_t4 (List.mem_of_getElem? (i := 78) rfl)) rfl, zq_in (zq_t4 (List.mem_of_getElem? (i := 79) rfl)) rfl, ⟨_, rfl, zq_in (zq_t4 (List.mem_of_getElem? (i := 80) rfl)) rfl⟩, mi_X11_force⟩
theorem mi_X12_force : zq_MI yX12_force 1 := ⟨zq_in (zq_t1 (List.mem_of_getElem? (i := 10) rfl)) rfl, ⟨by decide, by decide⟩, by decide +kernel⟩
theorem cw_X12_force : Cond.code yX12_force cX12_force 3 (some .int) ∈ zq_ws := zq_in (zq_t7 (List.mem_of_getElem? (i := 107) rfl)) rfl
theorem mv_L_81 : zq_MV RL 81 12 yX12_force 1 := ⟨zq_in (zq_t7 (List.mem_of_getElem? (i := 104) rfl)) rfl, zq_in (zq_t7 (List.mem_of_getElem? (i := 105) rfl)) rfl, ⟨_, rfl, zq_in (zq_t7 (List.mem_of_getElem? (i := 106) rfl)) rfl⟩, mi_X12_force⟩
theorem mi_X11_stroke : zq_MI yX11_stroke 3 := ⟨zq_in (zq_t1 (List.mem_of_getElem? (i := 1) rfl)) rfl, ⟨by decide, by decide⟩, by decide +kernel⟩
theorem cw_X11_stroke : Cond.code yX11_stroke cX11_stroke 4 (some .int) ∈ zq_ws := zq_in (zq_t4 (List.mem_of_getElem? (i := 86) rfl)) rfl
theorem mv_L_82 : zq_MV RL 82 11 yX11_stroke 3 := ⟨zq_in (zq_t4 (List.mem_of_getElem? (i := 83) rfl)) rfl, zq_in (zq_t4 (List.mem_of_getElem? (i := 84) rfl)) rfl, ⟨_, rfl, zq_in (zq_t4 (List.mem_of_getElem? (i := 85) rfl)) rfl⟩, mi_X11_stroke⟩
theorem mi_X12_stroke : zq_MI yX12_stroke 3 := ⟨zq_in (zq_t1 (List.mem_of_getElem? (i := 10) rfl)) rfl, ⟨by decide, by decide⟩, by decide +kernel⟩
theorem cw_X12_stroke : Cond.code yX12_stroke cX12_stroke 4 (some .int) ∈ zq_ws := zq_in (zq_t8 (List.mem_of_getElem? (i := 18) rfl)) rfl
theorem mv_L_85 : zq_MV RL 85 12 yX12_stroke 3 := ⟨zq_in (zq_t8 (List.mem_of_getElem? (i := 15) rfl)) rfl, zq_in (zq_t8 (List.mem_of_getElem? (i := 16) rfl)) rfl, ⟨_, rfl, zq_in (zq_t8 (List.mem_of_getElem? (i := 17) rfl)) rfl⟩, mi_X12_stroke⟩
theorem mi_X11_swap : zq_MI yX11_swap 1 := ⟨zq_in (zq_t1 (List.mem_of_getElem? (i := 1) rfl)) rfl, ⟨by decide, by decide⟩, by decide +kernel⟩
theorem cw_X11_swap : Cond.code yX11_swap cX11_swap 2 (some .int) ∈ zq_ws := zq_in (zq_t4 (List.mem_of_getElem? (i := 94) rfl)) rfl
theorem mv_L_86 : zq_MV RL 86 11 yX11_swap 1 := ⟨zq_in (zq_t4 (List.mem_of_getElem? (i := 91) rfl)) rfl, zq_in (zq_t4 (List.mem_of_getElem? (i := 92) rfl)) rfl, ⟨_, rfl, zq_in (zq_t4 (List.mem_of_getElem? (i := 93) rfl)) rfl⟩, mi_X11_swap⟩
theorem mi_X12_swap : zq_MI yX12_swap 1 := ⟨zq_in (zq_t1 (List.mem_of_getElem? (i := 10) rfl)) rfl, ⟨by decide, by decide⟩, by decide +kernel⟩
theorem cw_X12_swap : Cond.code yX12_swap cX12_swap 2 (some .int) ∈ zq_ws := zq_in (zq_t8 (List.mem_of_getElem? (i := 37) rfl)) rfl
theorem mv_L_89 : zq_MV RL 89 12 yX12_swap 1 := ⟨zq_in (zq_t8 (List.mem_of_getElem? (i := 34) rfl)) rfl, zq_in (zq_t8 (List.mem_of_getElem? (i := 35) rfl)) rfl, ⟨_, rfl, zq_in (zq_t8 (List.mem_of_getElem? (i := 36) rfl)) rfl⟩, mi_X12_swap⟩
theorem mi_X11_decree : zq_MI yX11_decree 1 := ⟨zq_in (zq_t1 (List.mem_of_getElem? (i := 1) rfl)) rfl, ⟨by decide, by decide⟩, by decide +kernel⟩
theorem cw_X11_decree : Cond.code yX11_decree cX11_decree 2 (some .int) ∈ zq_ws := zq_in (zq_t4 (List.mem_of_getElem? (i := 98) rfl)) rfl
theorem mv_L_90 : zq_MV RL 90 11 yX11_decree 1 := ⟨zq_in (zq_t4 (List.mem_of_getElem? (i := 95) rfl)) rfl, zq_in (zq_t4 (List.mem_of_getElem? (i := 96) rfl)) rfl, ⟨_, rfl, zq_in (zq_t4 (List.mem_of_getElem? (i := 97) rfl)) rfl⟩, mi_X11_decree⟩
theorem mi_X12_decree : zq_MI yX12_decree 1 := ⟨zq_in (zq_t1 (List.mem_of_getElem? (i := 10) rfl)) rfl, ⟨by decide, by decide⟩, by decide +kernel⟩
theorem cw_X12_decree : Cond.code yX12_decree cX12_decree 2 (some .int) ∈ zq_ws := zq_in (zq_t8 (List.mem_of_getElem? (i := 49) rfl)) rfl
theorem mv_L_93 : zq_MV RL 93 12 yX12_decree 1 := ⟨zq_in (zq_t8 (List.mem_of_getElem? (i := 46) rfl)) rfl, zq_in (zq_t8 (List.mem_of_getElem? (i := 47) rfl)) rfl, ⟨_, rfl, zq_in (zq_t8 (List.mem_of_getElem? (i := 48) rfl)) rfl⟩, mi_X12_decree⟩
theorem mi_X11_pass : zq_MI yX11_pass 0 := ⟨zq_in (zq_t1 (List.mem_of_getElem? (i := 1) rfl)) rfl, ⟨by decide, by decide⟩, by decide +kernel⟩
theorem cw_X11_pass : Cond.code yX11_pass cX11_pass 1 (some .int) ∈ zq_ws := zq_in (zq_t4 (List.mem_of_getElem? (i := 102) rfl)) rfl
theorem mv_L_94 : zq_MV RL 94 11 yX11_pass 0 := ⟨zq_in (zq_t4 (List.mem_of_getElem? (i := 99) rfl)) rfl, zq_in (zq_t4 (List.mem_of_getElem? (i := 100) rfl)) rfl, ⟨_, rfl, zq_in (zq_t4 (List.mem_of_getElem? (i := 101) rfl)) rfl⟩, mi_X11_pass⟩
theorem mi_X12_pass : zq_MI yX12_pass 0 := ⟨zq_in (zq_t1 (List.mem_of_getElem? (i := 10) rfl)) rfl, ⟨by decide, by decide⟩, by decide +kernel⟩
theorem cw_X12_pass : Cond.code yX12_pass cX12_pass 1 (some .int) ∈ zq_ws := zq_in (zq_t8 (List.mem_of_getElem? (i := 58) rfl)) rfl
theorem mv_L_97 : zq_MV RL 97 12 yX12_pass 0 := ⟨zq_in (zq_t8 (List.mem_of_getElem? (i := 55) rfl)) rfl, zq_in (zq_t8 (List.mem_of_getElem? (i := 56) rfl)) rfl, ⟨_, rfl, zq_in (zq_t8 (List.mem_of_getElem? (i := 57) rfl)) rfl⟩, mi_X12_pass⟩
theorem mi_X11_undo : zq_MI yX11_undo 0 := ⟨zq_in (zq_t1 (List.mem_of_getElem? (i := 1) rfl)) rfl, ⟨by decide, by decide⟩, by decide +kernel⟩
theorem cw_X11_undo : Cond.code yX11_undo cX11_undo 3 (some .int) ∈ zq_ws := zq_in (zq_t4 (List.mem_of_getElem? (i := 106) rfl)) rfl
theorem mv_L_98 : zq_MV RL 98 11 yX11_undo 0 := ⟨zq_in (zq_t4 (List.mem_of_getElem? (i := 103) rfl)) rfl, zq_in (zq_t4 (List.mem_of_getElem? (i := 104) rfl)) rfl, ⟨_, rfl, zq_in (zq_t4 (List.mem_of_getElem? (i := 105) rfl)) rfl⟩, mi_X11_undo⟩
theorem mi_X12_undo : zq_MI yX12_undo 0 := ⟨zq_in (zq_t1 (List.mem_of_getElem? (i := 10) rfl)) rfl, ⟨by decide, by decide⟩, by decide +kernel⟩
theorem cw_X12_undo : Cond.code yX12_undo cX12_undo 3 (some .int) ∈ zq_ws := zq_in (zq_t8 (List.mem_of_getElem? (i := 14) rfl)) rfl
theorem mv_L_101 : zq_MV RL 101 12 yX12_undo 0 := ⟨zq_in (zq_t8 (List.mem_of_getElem? (i := 11) rfl)) rfl, zq_in (zq_t8 (List.mem_of_getElem? (i := 12) rfl)) rfl, ⟨_, rfl, zq_in (zq_t8 (List.mem_of_getElem? (i := 13) rfl)) rfl⟩, mi_X12_undo⟩
theorem mi_X11_ahead : zq_MI yX11_ahead 2 := ⟨zq_in (zq_t1 (List.mem_of_getElem? (i := 1) rfl)) rfl, ⟨by decide, by decide⟩, by decide +kernel⟩
theorem cw_X11_ahead : Cond.code yX11_ahead cX11_ahead 4 (some .int) ∈ zq_ws := zq_in (zq_t4 (List.mem_of_getElem? (i := 126) rfl)) rfl
theorem mv_L_102 : zq_MV RL 102 11 yX11_ahead 2 := ⟨zq_in (zq_t4 (List.mem_of_getElem? (i := 123) rfl)) rfl, zq_in (zq_t4 (List.mem_of_getElem? (i := 124) rfl)) rfl, ⟨_, rfl, zq_in (zq_t4 (List.mem_of_getElem? (i := 125) rfl)) rfl⟩, mi_X11_ahead⟩
theorem mi_X12_ahead : zq_MI yX12_ahead 2 := ⟨zq_in (zq_t1 (List.mem_of_getElem? (i := 10) rfl)) rfl, ⟨by decide, by decide⟩, by decide +kernel⟩
theorem cw_X12_ahead : Cond.code yX12_ahead cX12_ahead 4 (some .int) ∈ zq_ws := zq_in (zq_t7 (List.mem_of_getElem? (i := 115) rfl)) rfl
theorem mv_L_105 : zq_MV RL 105 12 yX12_ahead 2 := ⟨zq_in (zq_t7 (List.mem_of_getElem? (i := 112) rfl)) rfl, zq_in (zq_t7 (List.mem_of_getElem? (i := 113) rfl)) rfl, ⟨_, rfl, zq_in (zq_t7 (List.mem_of_getElem? (i := 114) rfl)) rfl⟩, mi_X12_ahead⟩
theorem mi_X11_breaks : zq_MI yX11_breaks 1 := ⟨zq_in (zq_t1 (List.mem_of_getElem? (i := 1) rfl)) rfl, ⟨by decide, by decide⟩, by decide +kernel⟩
theorem cw_X11_breaks : Cond.code yX11_breaks cX11_breaks 2 (some .int) ∈ zq_ws := zq_in (zq_t4 (List.mem_of_getElem? (i := 132) rfl)) rfl
theorem mv_L_106 : zq_MV RL 106 11 yX11_breaks 1 := ⟨zq_in (zq_t4 (List.mem_of_getElem? (i := 129) rfl)) rfl, zq_in (zq_t4 (List.mem_of_getElem? (i := 130) rfl)) rfl, ⟨_, rfl, zq_in (zq_t4 (List.mem_of_getElem? (i := 131) rfl)) rfl⟩, mi_X11_breaks⟩
theorem mv_L_109 : zq_MV RL 109 12 yX12_breaks 1 := ⟨zq_in (zq_t7 (List.mem_of_getElem? (i := 120) rfl)) rfl, zq_in (zq_t6 (List.mem_of_getElem? (i := 153) rfl)) rfl, ⟨_, rfl, zq_in (zq_t6 (List.mem_of_getElem? (i := 154) rfl)) rfl⟩, mi_X12_breaks⟩
theorem mi_X11_swaps : zq_MI yX11_swaps 0 := ⟨zq_in (zq_t1 (List.mem_of_getElem? (i := 1) rfl)) rfl, ⟨by decide, by decide⟩, by decide +kernel⟩
theorem cw_X11_swaps : Cond.code yX11_swaps cX11_swaps 1 (some .int) ∈ zq_ws := zq_in (zq_t4 (List.mem_of_getElem? (i := 136) rfl)) rfl
theorem mv_L_110 : zq_MV RL 110 11 yX11_swaps 0 := ⟨zq_in (zq_t4 (List.mem_of_getElem? (i := 133) rfl)) rfl, zq_in (zq_t4 (List.mem_of_getElem? (i := 134) rfl)) rfl, ⟨_, rfl, zq_in (zq_t4 (List.mem_of_getElem? (i := 135) rfl)) rfl⟩, mi_X11_swaps⟩
theorem mv_L_113 : zq_MV RL 113 12 yX12_swaps 0 := ⟨zq_in (zq_t7 (List.mem_of_getElem? (i := 121) rfl)) rfl, zq_in (zq_t6 (List.mem_of_getElem? (i := 172) rfl)) rfl, ⟨_, rfl, zq_in (zq_t6 (List.mem_of_getElem? (i := 173) rfl)) rfl⟩, mi_X12_swaps⟩
theorem mi_X11_out : zq_MI yX11_out 1 := ⟨zq_in (zq_t1 (List.mem_of_getElem? (i := 1) rfl)) rfl, ⟨by decide, by decide⟩, by decide +kernel⟩
theorem cw_X11_out : Cond.code yX11_out cX11_out 3 (some .int) ∈ zq_ws := zq_in (zq_t4 (List.mem_of_getElem? (i := 140) rfl)) rfl
theorem mv_L_114 : zq_MV RL 114 11 yX11_out 1 := ⟨zq_in (zq_t4 (List.mem_of_getElem? (i := 137) rfl)) rfl, zq_in (zq_t4 (List.mem_of_getElem? (i := 138) rfl)) rfl, ⟨_, rfl, zq_in (zq_t4 (List.mem_of_getElem? (i := 139) rfl)) rfl⟩, mi_X11_out⟩
theorem mi_X12_out : zq_MI yX12_out 1 := ⟨zq_in (zq_t1 (List.mem_of_getElem? (i := 10) rfl)) rfl, ⟨by decide, by decide⟩, by decide +kernel⟩
theorem cw_X12_out : Cond.code yX12_out cX12_out 4 (some .int) ∈ zq_ws := zq_in (zq_t7 (List.mem_of_getElem? (i := 125) rfl)) rfl
theorem mv_L_117 : zq_MV RL 117 12 yX12_out 1 := ⟨zq_in (zq_t7 (List.mem_of_getElem? (i := 122) rfl)) rfl, zq_in (zq_t7 (List.mem_of_getElem? (i := 123) rfl)) rfl, ⟨_, rfl, zq_in (zq_t7 (List.mem_of_getElem? (i := 124) rfl)) rfl⟩, mi_X12_out⟩
theorem mi_X11_right : zq_MI yX11_right 1 := ⟨zq_in (zq_t1 (List.mem_of_getElem? (i := 1) rfl)) rfl, ⟨by decide, by decide⟩, by decide +kernel⟩
theorem cw_X11_right : Cond.code yX11_right cX11_right 4 (some .int) ∈ zq_ws := zq_in (zq_t4 (List.mem_of_getElem? (i := 159) rfl)) rfl
theorem mv_L_118 : zq_MV RL 118 11 yX11_right 1 := ⟨zq_in (zq_t4 (List.mem_of_getElem? (i := 156) rfl)) rfl, zq_in (zq_t4 (List.mem_of_getElem? (i := 157) rfl)) rfl, ⟨_, rfl, zq_in (zq_t4 (List.mem_of_getElem? (i := 158) rfl)) rfl⟩, mi_X11_right⟩
theorem mi_X12_right : zq_MI yX12_right 1 := ⟨zq_in (zq_t1 (List.mem_of_getElem? (i := 10) rfl)) rfl, ⟨by decide, by decide⟩, by decide +kernel⟩
theorem cw_X12_right : Cond.code yX12_right cX12_right 5 (some .int) ∈ zq_ws := zq_in (zq_t7 (List.mem_of_getElem? (i := 139) rfl)) rfl
theorem mv_L_121 : zq_MV RL 121 12 yX12_right 1 := ⟨zq_in (zq_t7 (List.mem_of_getElem? (i := 136) rfl)) rfl, zq_in (zq_t7 (List.mem_of_getElem? (i := 137) rfl)) rfl, ⟨_, rfl, zq_in (zq_t7 (List.mem_of_getElem? (i := 138) rfl)) rfl⟩, mi_X12_right⟩
theorem mi_X11_heard : zq_MI yX11_heard 2 := ⟨zq_in (zq_t1 (List.mem_of_getElem? (i := 1) rfl)) rfl, ⟨by decide, by decide⟩, by decide +kernel⟩
theorem cw_X11_heard : Cond.code yX11_heard cX11_heard 3 (some .int) ∈ zq_ws := zq_in (zq_t4 (List.mem_of_getElem? (i := 187) rfl)) rfl
theorem mv_L_122 : zq_MV RL 122 11 yX11_heard 2 := ⟨zq_in (zq_t4 (List.mem_of_getElem? (i := 184) rfl)) rfl, zq_in (zq_t4 (List.mem_of_getElem? (i := 185) rfl)) rfl, ⟨_, rfl, zq_in (zq_t4 (List.mem_of_getElem? (i := 186) rfl)) rfl⟩, mi_X11_heard⟩
theorem mi_X12_heard : zq_MI yX12_heard 2 := ⟨zq_in (zq_t1 (List.mem_of_getElem? (i := 10) rfl)) rfl, ⟨by decide, by decide⟩, by decide +kernel⟩
theorem cw_X12_heard : Cond.code yX12_heard cX12_heard 4 (some .int) ∈ zq_ws := zq_in (zq_t7 (List.mem_of_getElem? (i := 155) rfl)) rfl
theorem mv_L_125 : zq_MV RL 125 12 yX12_heard 2 := ⟨zq_in (zq_t7 (List.mem_of_getElem? (i := 152) rfl)) rfl, zq_in (zq_t7 (List.mem_of_getElem? (i := 153) rfl)) rfl, ⟨_, rfl, zq_in (zq_t7 (List.mem_of_getElem? (i := 154) rfl)) rfl⟩, mi_X12_heard⟩
theorem mi_X11_forget : zq_MI yX11_forget 0 := ⟨zq_in (zq_t1 (List.mem_of_getElem? (i := 1) rfl)) rfl, ⟨by decide, by decide⟩, by decide +kernel⟩
theorem cw_X11_forget : Cond.code yX11_forget cX11_forget 2 (some .int) ∈ zq_ws := zq_in (zq_t4 (List.mem_of_getElem? (i := 195) rfl)) rfl
theorem mv_L_126 : zq_MV RL 126 11 yX11_forget 0 := ⟨zq_in (zq_t4 (List.mem_of_getElem? (i := 192) rfl)) rfl, zq_in (zq_t4 (List.mem_of_getElem? (i := 193) rfl)) rfl, ⟨_, rfl, zq_in (zq_t4 (List.mem_of_getElem? (i := 194) rfl)) rfl⟩, mi_X11_forget⟩
theorem mi_X12_forget : zq_MI yX12_forget 0 := ⟨zq_in (zq_t1 (List.mem_of_getElem? (i := 10) rfl)) rfl, ⟨by decide, by decide⟩, by decide +kernel⟩
theorem cw_X12_forget : Cond.code yX12_forget cX12_forget 2 (some .int) ∈ zq_ws := zq_in (zq_t7 (List.mem_of_getElem? (i := 159) rfl)) rfl
theorem mv_L_129 : zq_MV RL 129 12 yX12_forget 0 := ⟨zq_in (zq_t7 (List.mem_of_getElem? (i := 156) rfl)) rfl, zq_in (zq_t7 (List.mem_of_getElem? (i := 157) rfl)) rfl, ⟨_, rfl, zq_in (zq_t7 (List.mem_of_getElem? (i := 158) rfl)) rfl⟩, mi_X12_forget⟩
theorem mi_X11_fits : zq_MI yX11_fits 1 := ⟨zq_in (zq_t1 (List.mem_of_getElem? (i := 1) rfl)) rfl, ⟨by decide, by decide⟩, by decide +kernel⟩
theorem cw_X11_fits : Cond.code yX11_fits cX11_fits 2 (some .int) ∈ zq_ws := zq_in (zq_t4 (List.mem_of_getElem? (i := 199) rfl)) rfl
theorem mv_L_130 : zq_MV RL 130 11 yX11_fits 1 := ⟨zq_in (zq_t4 (List.mem_of_getElem? (i := 196) rfl)) rfl, zq_in (zq_t4 (List.mem_of_getElem? (i := 197) rfl)) rfl, ⟨_, rfl, zq_in (zq_t4 (List.mem_of_getElem? (i := 198) rfl)) rfl⟩, mi_X11_fits⟩
theorem mi_X12_fits : zq_MI yX12_fits 1 := ⟨zq_in (zq_t1 (List.mem_of_getElem? (i := 10) rfl)) rfl, ⟨by decide, by decide⟩, by decide +kernel⟩
theorem cw_X12_fits : Cond.code yX12_fits cX12_fits 5 (some .int) ∈ zq_ws := zq_in (zq_t7 (List.mem_of_getElem? (i := 163) rfl)) rfl
theorem mv_L_133 : zq_MV RL 133 12 yX12_fits 1 := ⟨zq_in (zq_t7 (List.mem_of_getElem? (i := 160) rfl)) rfl, zq_in (zq_t7 (List.mem_of_getElem? (i := 161) rfl)) rfl, ⟨_, rfl, zq_in (zq_t7 (List.mem_of_getElem? (i := 162) rfl)) rfl⟩, mi_X12_fits⟩
theorem mi_X11_ask : zq_MI yX11_ask 1 := ⟨zq_in (zq_t1 (List.mem_of_getElem? (i := 1) rfl)) rfl, ⟨by decide, by decide⟩, by decide +kernel⟩
theorem cw_X11_ask : Cond.code yX11_ask cX11_ask 2 (some .int) ∈ zq_ws := zq_in (zq_t4 (List.mem_of_getElem? (i := 208) rfl)) rfl
theorem mv_L_134 : zq_MV RL 134 11 yX11_ask 1 := ⟨zq_in (zq_t4 (List.mem_of_getElem? (i := 205) rfl)) rfl, zq_in (zq_t4 (List.mem_of_getElem? (i := 206) rfl)) rfl, ⟨_, rfl, zq_in (zq_t4 (List.mem_of_getElem? (i := 207) rfl)) rfl⟩, mi_X11_ask⟩
theorem mi_X12_ask : zq_MI yX12_ask 1 := ⟨zq_in (zq_t1 (List.mem_of_getElem? (i := 10) rfl)) rfl, ⟨by decide, by decide⟩, by decide +kernel⟩
theorem cw_X12_ask : Cond.code yX12_ask cX12_ask 9 (some .int) ∈ zq_ws := zq_in (zq_t7 (List.mem_of_getElem? (i := 171) rfl)) rfl
theorem mv_L_137 : zq_MV RL 137 12 yX12_ask 1 := ⟨zq_in (zq_t7 (List.mem_of_getElem? (i := 168) rfl)) rfl, zq_in (zq_t7 (List.mem_of_getElem? (i := 169) rfl)) rfl, ⟨_, rfl, zq_in (zq_t7 (List.mem_of_getElem? (i := 170) rfl)) rfl⟩, mi_X12_ask⟩
theorem mi_X11_mend : zq_MI yX11_mend 1 := ⟨zq_in (zq_t1 (List.mem_of_getElem? (i := 1) rfl)) rfl, ⟨by decide, by decide⟩, by decide +kernel⟩
theorem cw_X11_mend : Cond.code yX11_mend cX11_mend 3 (some .int) ∈ zq_ws := zq_in (zq_t4 (List.mem_of_getElem? (i := 224) rfl)) rfl
theorem mv_L_138 : zq_MV RL 138 11 yX11_mend 1 := ⟨zq_in (zq_t4 (List.mem_of_getElem? (i := 221) rfl)) rfl, zq_in (zq_t4 (List.mem_of_getElem? (i := 222) rfl)) rfl, ⟨_, rfl, zq_in (zq_t4 (List.mem_of_getElem? (i := 223) rfl)) rfl⟩, mi_X11_mend⟩
theorem mv_L_141 : zq_MV RL 141 12 yX12_mend 1 := ⟨zq_in (zq_t7 (List.mem_of_getElem? (i := 179) rfl)) rfl, zq_in (zq_t7 (List.mem_of_getElem? (i := 180) rfl)) rfl, ⟨_, rfl, zq_in (zq_t7 (List.mem_of_getElem? (i := 181) rfl)) rfl⟩, mi_X12_mend⟩
theorem mi_X11_whisper : zq_MI yX11_whisper 1 := ⟨zq_in (zq_t1 (List.mem_of_getElem? (i := 1) rfl)) rfl, ⟨by decide, by decide⟩, by decide +kernel⟩
theorem cw_X11_whisper : Cond.code yX11_whisper cX11_whisper 2 (some .int) ∈ zq_ws := zq_in (zq_t5 (List.mem_of_getElem? (i := 29) rfl)) rfl
theorem mv_L_142 : zq_MV RL 142 11 yX11_whisper 1 := ⟨zq_in (zq_t5 (List.mem_of_getElem? (i := 26) rfl)) rfl, zq_in (zq_t5 (List.mem_of_getElem? (i := 27) rfl)) rfl, ⟨_, rfl, zq_in (zq_t5 (List.mem_of_getElem? (i := 28) rfl)) rfl⟩, mi_X11_whisper⟩
theorem mi_X12_whisper : zq_MI yX12_whisper 1 := ⟨zq_in (zq_t1 (List.mem_of_getElem? (i := 10) rfl)) rfl, ⟨by decide, by decide⟩, by decide +kernel⟩
theorem cw_X12_whisper : Cond.code yX12_whisper cX12_whisper 2 (some .int) ∈ zq_ws := zq_in (zq_t7 (List.mem_of_getElem? (i := 219) rfl)) rfl
theorem mv_L_145 : zq_MV RL 145 12 yX12_whisper 1 := ⟨zq_in (zq_t7 (List.mem_of_getElem? (i := 216) rfl)) rfl, zq_in (zq_t7 (List.mem_of_getElem? (i := 217) rfl)) rfl, ⟨_, rfl, zq_in (zq_t7 (List.mem_of_getElem? (i := 218) rfl)) rfl⟩, mi_X12_whisper⟩
theorem mi_X11_from : zq_MI yX11_from 1 := ⟨zq_in (zq_t1 (List.mem_of_getElem? (i := 1) rfl)) rfl, ⟨by decide, by decide⟩, by decide +kernel⟩
theorem cw_X11_from : Cond.code yX11_from cX11_from 4 (some .int) ∈ zq_ws := zq_in (zq_t5 (List.mem_of_getElem? (i := 38) rfl)) rfl
theorem mv_L_146 : zq_MV RL 146 11 yX11_from 1 := ⟨zq_in (zq_t5 (List.mem_of_getElem? (i := 35) rfl)) rfl, zq_in (zq_t5 (List.mem_of_getElem? (i := 36) rfl)) rfl, ⟨_, rfl, zq_in (zq_t5 (List.mem_of_getElem? (i := 37) rfl)) rfl⟩, mi_X11_from⟩
theorem mi_X12_from : zq_MI yX12_from 1 := ⟨zq_in (zq_t1 (List.mem_of_getElem? (i := 10) rfl)) rfl, ⟨by decide, by decide⟩, by decide +kernel⟩
theorem cw_X12_from : Cond.code yX12_from cX12_from 4 (some .int) ∈ zq_ws := zq_in (zq_t7 (List.mem_of_getElem? (i := 231) rfl)) rfl
theorem mv_L_149 : zq_MV RL 149 12 yX12_from 1 := ⟨zq_in (zq_t7 (List.mem_of_getElem? (i := 228) rfl)) rfl, zq_in (zq_t7 (List.mem_of_getElem? (i := 229) rfl)) rfl, ⟨_, rfl, zq_in (zq_t7 (List.mem_of_getElem? (i := 230) rfl)) rfl⟩, mi_X12_from⟩
theorem mi_X11_clearest : zq_MI yX11_clearest 1 := ⟨zq_in (zq_t1 (List.mem_of_getElem? (i := 1) rfl)) rfl, ⟨by decide, by decide⟩, by decide +kernel⟩
theorem cw_X11_clearest : Cond.code yX11_clearest cX11_clearest 2 (some .int) ∈ zq_ws := zq_in (zq_t5 (List.mem_of_getElem? (i := 42) rfl)) rfl
theorem mv_L_150 : zq_MV RL 150 11 yX11_clearest 1 := ⟨zq_in (zq_t5 (List.mem_of_getElem? (i := 39) rfl)) rfl, zq_in (zq_t5 (List.mem_of_getElem? (i := 40) rfl)) rfl, ⟨_, rfl, zq_in (zq_t5 (List.mem_of_getElem? (i := 41) rfl)) rfl⟩, mi_X11_clearest⟩
theorem mi_X12_clearest : zq_MI yX12_clearest 1 := ⟨zq_in (zq_t1 (List.mem_of_getElem? (i := 10) rfl)) rfl, ⟨by decide, by decide⟩, by decide +kernel⟩
theorem cw_X12_clearest : Cond.code yX12_clearest cX12_clearest 3 (some .int) ∈ zq_ws := zq_in (zq_t7 (List.mem_of_getElem? (i := 235) rfl)) rfl
theorem mv_L_153 : zq_MV RL 153 12 yX12_clearest 1 := ⟨zq_in (zq_t7 (List.mem_of_getElem? (i := 232) rfl)) rfl, zq_in (zq_t7 (List.mem_of_getElem? (i := 233) rfl)) rfl, ⟨_, rfl, zq_in (zq_t7 (List.mem_of_getElem? (i := 234) rfl)) rfl⟩, mi_X12_clearest⟩
theorem mi_X11_comes : zq_MI yX11_comes 2 := ⟨zq_in (zq_t1 (List.mem_of_getElem? (i := 1) rfl)) rfl, ⟨by decide, by decide⟩, by decide +kernel⟩
theorem cw_X11_comes : Cond.code yX11_comes cX11_comes 8 (some .long) ∈ zq_ws := zq_in (zq_t5 (List.mem_of_getElem? (i := 69) rfl)) rfl
theorem mv_L_154 : zq_MV RL 154 11 yX11_comes 2 := ⟨zq_in (zq_t5 (List.mem_of_getElem? (i := 66) rfl)) rfl, zq_in (zq_t5 (List.mem_of_getElem? (i := 67) rfl)) rfl, ⟨_, rfl, zq_in (zq_t5 (List.mem_of_getElem? (i := 68) rfl)) rfl⟩, mi_X11_comes⟩
theorem mi_X12_comes : zq_MI yX12_comes 2 := ⟨zq_in (zq_t1 (List.mem_of_getElem? (i := 10) rfl)) rfl, ⟨by decide, by decide⟩, by decide +kernel⟩
theorem cw_X12_comes : Cond.code yX12_comes cX12_comes 6 (some .long) ∈ zq_ws := zq_in (zq_t8 (List.mem_of_getElem? (i := 7) rfl)) rfl
theorem mv_L_158 : zq_MV RL 158 12 yX12_comes 2 := ⟨zq_in (zq_t8 (List.mem_of_getElem? (i := 4) rfl)) rfl, zq_in (zq_t8 (List.mem_of_getElem? (i := 5) rfl)) rfl, ⟨_, rfl, zq_in (zq_t8 (List.mem_of_getElem? (i := 6) rfl)) rfl⟩, mi_X12_comes⟩
theorem mi_X11_compare : zq_MI yX11_compare 1 := ⟨zq_in (zq_t1 (List.mem_of_getElem? (i := 1) rfl)) rfl, ⟨by decide, by decide⟩, by decide +kernel⟩
theorem cw_X11_compare : Cond.code yX11_compare cX11_compare 2 (some .int) ∈ zq_ws := zq_in (zq_t5 (List.mem_of_getElem? (i := 24) rfl)) rfl
theorem mv_L_159 : zq_MV RL 159 11 yX11_compare 1 := ⟨zq_in (zq_t5 (List.mem_of_getElem? (i := 21) rfl)) rfl, zq_in (zq_t5 (List.mem_of_getElem? (i := 22) rfl)) rfl, ⟨_, rfl, zq_in (zq_t5 (List.mem_of_getElem? (i := 23) rfl)) rfl⟩, mi_X11_compare⟩
theorem mi_X12_compare : zq_MI yX12_compare 1 := ⟨zq_in (zq_t1 (List.mem_of_getElem? (i := 10) rfl)) rfl, ⟨by decide, by decide⟩, by decide +kernel⟩
theorem cw_X12_compare : Cond.code yX12_compare cX12_compare 4 (some .int) ∈ zq_ws := zq_in (zq_t7 (List.mem_of_getElem? (i := 214) rfl)) rfl
theorem mv_L_162 : zq_MV RL 162 12 yX12_compare 1 := ⟨zq_in (zq_t7 (List.mem_of_getElem? (i := 211) rfl)) rfl, zq_in (zq_t7 (List.mem_of_getElem? (i := 212) rfl)) rfl, ⟨_, rfl, zq_in (zq_t7 (List.mem_of_getElem? (i := 213) rfl)) rfl⟩, mi_X12_compare⟩
theorem mi_X11_weeks : zq_MI yX11_weeks 2 := ⟨zq_in (zq_t1 (List.mem_of_getElem? (i := 1) rfl)) rfl, ⟨by decide, by decide⟩, by decide +kernel⟩
theorem cw_X11_weeks : Cond.code yX11_weeks cX11_weeks 8 (some .int) ∈ zq_ws := zq_in (zq_t5 (List.mem_of_getElem? (i := 77) rfl)) rfl
theorem mv_L_163 : zq_MV RL 163 11 yX11_weeks 2 := ⟨zq_in (zq_t5 (List.mem_of_getElem? (i := 74) rfl)) rfl, zq_in (zq_t5 (List.mem_of_getElem? (i := 75) rfl)) rfl, ⟨_, rfl, zq_in (zq_t5 (List.mem_of_getElem? (i := 76) rfl)) rfl⟩, mi_X11_weeks⟩
theorem mi_X12_weeks : zq_MI yX12_weeks 2 := ⟨zq_in (zq_t1 (List.mem_of_getElem? (i := 10) rfl)) rfl, ⟨by decide, by decide⟩, by decide +kernel⟩
theorem cw_X12_weeks : Cond.code yX12_weeks cX12_weeks 5 (some .int) ∈ zq_ws := zq_in (zq_t8 (List.mem_of_getElem? (i := 98) rfl)) rfl
theorem mv_L_166 : zq_MV RL 166 12 yX12_weeks 2 := ⟨zq_in (zq_t8 (List.mem_of_getElem? (i := 95) rfl)) rfl, zq_in (zq_t8 (List.mem_of_getElem? (i := 96) rfl)) rfl, ⟨_, rfl, zq_in (zq_t8 (List.mem_of_getElem? (i := 97) rfl)) rfl⟩, mi_X12_weeks⟩
theorem mi_X11_drawn : zq_MI yX11_drawn 2 := ⟨zq_in (zq_t1 (List.mem_of_getElem? (i := 1) rfl)) rfl, ⟨by decide, by decide⟩, by decide +kernel⟩
theorem cw_X11_drawn : Cond.code yX11_drawn cX11_drawn 3 (some .int) ∈ zq_ws := zq_in (zq_t5 (List.mem_of_getElem? (i := 92) rfl)) rfl
theorem mv_L_167 : zq_MV RL 167 11 yX11_drawn 2 := ⟨zq_in (zq_t5 (List.mem_of_getElem? (i := 89) rfl)) rfl, zq_in (zq_t5 (List.mem_of_getElem? (i := 90) rfl)) rfl, ⟨_, rfl, zq_in (zq_t5 (List.mem_of_getElem? (i := 91) rfl)) rfl⟩, mi_X11_drawn⟩
theorem mi_X12_drawn : zq_MI yX12_drawn 2 := ⟨zq_in (zq_t1 (List.mem_of_getElem? (i := 10) rfl)) rfl, ⟨by decide, by decide⟩, by decide +kernel⟩
theorem cw_X12_drawn : Cond.code yX12_drawn cX12_drawn 5 (some .int) ∈ zq_ws := zq_in (zq_t8 (List.mem_of_getElem? (i := 113) rfl)) rfl
theorem mv_L_170 : zq_MV RL 170 12 yX12_drawn 2 := ⟨zq_in (zq_t8 (List.mem_of_getElem? (i := 110) rfl)) rfl, zq_in (zq_t8 (List.mem_of_getElem? (i := 111) rfl)) rfl, ⟨_, rfl, zq_in (zq_t8 (List.mem_of_getElem? (i := 112) rfl)) rfl⟩, mi_X12_drawn⟩
theorem mi_X11_image : zq_MI yX11_image 1 := ⟨zq_in (zq_t1 (List.mem_of_getElem? (i := 1) rfl)) rfl, ⟨by decide, by decide⟩, by decide +kernel⟩
theorem cw_X11_image : Cond.code yX11_image cX11_image 3 (some .int) ∈ zq_ws := zq_in (zq_t5 (List.mem_of_getElem? (i := 96) rfl)) rfl
theorem mv_L_171 : zq_MV RL 171 11 yX11_image 1 := ⟨zq_in (zq_t5 (List.mem_of_getElem? (i := 93) rfl)) rfl, zq_in (zq_t5 (List.mem_of_getElem? (i := 94) rfl)) rfl, ⟨_, rfl, zq_in (zq_t5 (List.mem_of_getElem? (i := 95) rfl)) rfl⟩, mi_X11_image⟩
theorem mi_X12_image : zq_MI yX12_image 1 := ⟨zq_in (zq_t1 (List.mem_of_getElem? (i := 10) rfl)) rfl, ⟨by decide, by decide⟩, by decide +kernel⟩
theorem cw_X12_image : Cond.code yX12_image cX12_image 3 (some .int) ∈ zq_ws := zq_in (zq_t6 (List.mem_of_getElem? (i := 49) rfl)) rfl
theorem mv_L_174 : zq_MV RL 174 12 yX12_image 1 := ⟨zq_in (zq_t6 (List.mem_of_getElem? (i := 46) rfl)) rfl, zq_in (zq_t6 (List.mem_of_getElem? (i := 47) rfl)) rfl, ⟨_, rfl, zq_in (zq_t6 (List.mem_of_getElem? (i := 48) rfl)) rfl⟩, mi_X12_image⟩
theorem mi_X11_back : zq_MI yX11_back 1 := ⟨zq_in (zq_t1 (List.mem_of_getElem? (i := 1) rfl)) rfl, ⟨by decide, by decide⟩, by decide +kernel⟩
theorem cw_X11_back : Cond.code yX11_back cX11_back 3 (some .int) ∈ zq_ws := zq_in (zq_t5 (List.mem_of_getElem? (i := 100) rfl)) rfl
theorem mv_L_175 : zq_MV RL 175 11 yX11_back 1 := ⟨zq_in (zq_t5 (List.mem_of_getElem? (i := 97) rfl)) rfl, zq_in (zq_t5 (List.mem_of_getElem? (i := 98) rfl)) rfl, ⟨_, rfl, zq_in (zq_t5 (List.mem_of_getElem? (i := 99) rfl)) rfl⟩, mi_X11_back⟩
theorem mi_X12_back : zq_MI yX12_back 1 := ⟨zq_in (zq_t1 (List.mem_of_getElem? (i := 10) rfl)) rfl, ⟨by decide, by decide⟩, by decide +kernel⟩
theorem cw_X12_back : Cond.code yX12_back cX12_back 3 (some .int) ∈ zq_ws := zq_in (zq_t6 (List.mem_of_getElem? (i := 64) rfl)) rfl
theorem mv_L_178 : zq_MV RL 178 12 yX12_back 1 := ⟨zq_in (zq_t6 (List.mem_of_getElem? (i := 61) rfl)) rfl, zq_in (zq_t6 (List.mem_of_getElem? (i := 62) rfl)) rfl, ⟨_, rfl, zq_in (zq_t6 (List.mem_of_getElem? (i := 63) rfl)) rfl⟩, mi_X12_back⟩
theorem mi_X11_count : zq_MI yX11_count 1 := ⟨zq_in (zq_t1 (List.mem_of_getElem? (i := 1) rfl)) rfl, ⟨by decide, by decide⟩, by decide +kernel⟩
theorem cw_X11_count : Cond.code yX11_count cX11_count 2 (some .int) ∈ zq_ws := zq_in (zq_t5 (List.mem_of_getElem? (i := 104) rfl)) rfl
theorem mv_L_179 : zq_MV RL 179 11 yX11_count 1 := ⟨zq_in (zq_t5 (List.mem_of_getElem? (i := 101) rfl)) rfl, zq_in (zq_t5 (List.mem_of_getElem? (i := 102) rfl)) rfl, ⟨_, rfl, zq_in (zq_t5 (List.mem_of_getElem? (i := 103) rfl)) rfl⟩, mi_X11_count⟩
theorem mi_X12_count : zq_MI yX12_count 1 := ⟨zq_in (zq_t1 (List.mem_of_getElem? (i := 10) rfl)) rfl, ⟨by decide, by decide⟩, by decide +kernel⟩
theorem cw_X12_count : Cond.code yX12_count cX12_count 2 (some .int) ∈ zq_ws := zq_in (zq_t8 (List.mem_of_getElem? (i := 117) rfl)) rfl
theorem mv_L_182 : zq_MV RL 182 12 yX12_count 1 := ⟨zq_in (zq_t8 (List.mem_of_getElem? (i := 114) rfl)) rfl, zq_in (zq_t8 (List.mem_of_getElem? (i := 115) rfl)) rfl, ⟨_, rfl, zq_in (zq_t8 (List.mem_of_getElem? (i := 116) rfl)) rfl⟩, mi_X12_count⟩
theorem mi_X11_status : zq_MI yX11_status 0 := ⟨zq_in (zq_t1 (List.mem_of_getElem? (i := 1) rfl)) rfl, ⟨by decide, by decide⟩, by decide +kernel⟩
theorem cw_X11_status : Cond.code yX11_status cX11_status 1 (some .int) ∈ zq_ws := zq_in (zq_t5 (List.mem_of_getElem? (i := 108) rfl)) rfl
theorem mv_L_183 : zq_MV RL 183 11 yX11_status 0 := ⟨zq_in (zq_t5 (List.mem_of_getElem? (i := 105) rfl)) rfl, zq_in (zq_t5 (List.mem_of_getElem? (i := 106) rfl)) rfl, ⟨_, rfl, zq_in (zq_t5 (List.mem_of_getElem? (i := 107) rfl)) rfl⟩, mi_X11_status⟩
theorem mi_X12_status : zq_MI yX12_status 0 := ⟨zq_in (zq_t1 (List.mem_of_getElem? (i := 10) rfl)) rfl, ⟨by decide, by decide⟩, by decide +kernel⟩
theorem cw_X12_status : Cond.code yX12_status cX12_status 1 (some .int) ∈ zq_ws := zq_in (zq_t8 (List.mem_of_getElem? (i := 121) rfl)) rfl
theorem mv_L_186 : zq_MV RL 186 12 yX12_status 0 := ⟨zq_in (zq_t8 (List.mem_of_getElem? (i := 118) rfl)) rfl, zq_in (zq_t8 (List.mem_of_getElem? (i := 119) rfl)) rfl, ⟨_, rfl, zq_in (zq_t8 (List.mem_of_getElem? (i := 120) rfl)) rfl⟩, mi_X12_status⟩
