/-! ===== what the entries of the constant pools name, by program ===== -/
theorem zq_ts {w : Cond} (h : w ∈ k2_sels lw_privs) : w ∈ lw_tbl := List.mem_append_left _ h
theorem zq_t1 {w : Cond} (h : w ∈ tables_1_1) : w ∈ lw_tbl := List.mem_append_right _ (List.mem_append_left _ h)
theorem zq_t2 {w : Cond} (h : w ∈ tables_1_2) : w ∈ lw_tbl := List.mem_append_right _ (List.mem_append_right _ (List.mem_append_left _ h))
theorem zq_t3 {w : Cond} (h : w ∈ tables_1_3) : w ∈ lw_tbl := List.mem_append_right _ (List.mem_append_right _ (List.mem_append_right _ (List.mem_append_left _ h)))
theorem zq_t4 {w : Cond} (h : w ∈ tables_1_4) : w ∈ lw_tbl := List.mem_append_right _ (List.mem_append_right _ (List.mem_append_right _ (List.mem_append_right _ (List.mem_append_left _ h))))
theorem zq_t5 {w : Cond} (h : w ∈ tables_1_5) : w ∈ lw_tbl := List.mem_append_right _ (List.mem_append_right _ (List.mem_append_right _ (List.mem_append_right _ (List.mem_append_right _ (List.mem_append_left _ h)))))
theorem zq_t6 {w : Cond} (h : w ∈ tables_1_6) : w ∈ lw_tbl := List.mem_append_right _ (List.mem_append_right _ (List.mem_append_right _ (List.mem_append_right _ (List.mem_append_right _ (List.mem_append_right _ (List.mem_append_left _ h))))))
theorem zq_t7 {w : Cond} (h : w ∈ tables_1_7) : w ∈ lw_tbl := List.mem_append_right _ (List.mem_append_right _ (List.mem_append_right _ (List.mem_append_right _ (List.mem_append_right _ (List.mem_append_right _ (List.mem_append_right _ (List.mem_append_left _ h)))))))
theorem zq_t8 {w : Cond} (h : w ∈ tables_1_8) : w ∈ lw_tbl := List.mem_append_right _ (List.mem_append_right _ (List.mem_append_right _ (List.mem_append_right _ (List.mem_append_right _ (List.mem_append_right _ (List.mem_append_right _ (List.mem_append_right _ (h))))))))
theorem fl_X12_3 : zq_FL RX12 3 12 0 := ⟨_, _, _, rfl, by decide, zq_in (zq_t5 (List.mem_of_getElem? (i := 119) rfl)) rfl⟩
theorem pl_X12_3 (nm : String) : zq_PL RX12 nm 3 12 0 := ⟨_, _, _, rfl, by decide, zq_in (zq_t5 (List.mem_of_getElem? (i := 119) rfl)) rfl, Or.inl rfl⟩
theorem fl_X12_7 : zq_FL RX12 7 12 1 := ⟨_, _, _, rfl, by decide, zq_in (zq_t5 (List.mem_of_getElem? (i := 120) rfl)) rfl⟩
theorem pl_X12_7 : zq_PL RX12 "<init>" 7 12 1 := ⟨_, _, _, rfl, by decide, zq_in (zq_t5 (List.mem_of_getElem? (i := 120) rfl)) rfl, Or.inr ⟨rfl, rfl, rfl⟩⟩
theorem fl_X12_11 : zq_FL RX12 11 12 44 := ⟨_, _, _, rfl, by decide, zq_in (zq_t5 (List.mem_of_getElem? (i := 163) rfl)) rfl⟩
theorem pl_X12_11 (nm : String) : zq_PL RX12 nm 11 12 44 := ⟨_, _, _, rfl, by decide, zq_in (zq_t5 (List.mem_of_getElem? (i := 163) rfl)) rfl, Or.inl rfl⟩
theorem mi_X12_good : zq_MI yX12_good 1 := ⟨zq_in (zq_t1 (List.mem_of_getElem? (i := 10) rfl)) rfl, ⟨by decide, by decide⟩, by decide +kernel⟩
theorem cw_X12_good : Cond.code yX12_good cX12_good 2 (some .int) ∈ zq_ws := zq_in (zq_t6 (List.mem_of_getElem? (i := 60) rfl)) rfl
theorem mv_X12_14 : zq_MV RX12 14 12 yX12_good 1 := ⟨zq_in (zq_t6 (List.mem_of_getElem? (i := 57) rfl)) rfl, zq_in (zq_t6 (List.mem_of_getElem? (i := 59) rfl)) rfl, ⟨_, rfl, zq_in (zq_ts (List.mem_of_getElem? (i := 49) rfl)) rfl⟩, mi_X12_good⟩
theorem mi_X12_lies : zq_MI yX12_lies 3 := ⟨zq_in (zq_t1 (List.mem_of_getElem? (i := 10) rfl)) rfl, ⟨by decide, by decide⟩, by decide +kernel⟩
theorem cw_X12_lies : Cond.code yX12_lies cX12_lies 3 (some .boolean) ∈ zq_ws := zq_in (zq_t6 (List.mem_of_getElem? (i := 52) rfl)) rfl
theorem ms_X12_18 : zq_MS RX12 18 yX12_lies 3 := ⟨Or.inl (zq_in (zq_t6 (List.mem_of_getElem? (i := 50) rfl)) rfl), zq_in (zq_t6 (List.mem_of_getElem? (i := 51) rfl)) rfl, mi_X12_lies⟩
theorem mi_X12_lengthOf : zq_MI yX12_lengthOf 1 := ⟨zq_in (zq_t1 (List.mem_of_getElem? (i := 10) rfl)) rfl, ⟨by decide, by decide⟩, by decide +kernel⟩
theorem cw_X12_lengthOf : Cond.code yX12_lengthOf cX12_lengthOf 1 (some .int) ∈ zq_ws := zq_in (zq_t6 (List.mem_of_getElem? (i := 78) rfl)) rfl
theorem ms_X12_22 : zq_MS RX12 22 yX12_lengthOf 1 := ⟨Or.inl (zq_in (zq_t6 (List.mem_of_getElem? (i := 76) rfl)) rfl), zq_in (zq_t6 (List.mem_of_getElem? (i := 77) rfl)) rfl, mi_X12_lengthOf⟩
theorem mi_X12_tens : zq_MI yX12_tens 1 := ⟨zq_in (zq_t1 (List.mem_of_getElem? (i := 10) rfl)) rfl, ⟨by decide, by decide⟩, by decide +kernel⟩
theorem cw_X12_tens : Cond.code yX12_tens cX12_tens 3 (some .int) ∈ zq_ws := zq_in (zq_t6 (List.mem_of_getElem? (i := 84) rfl)) rfl
theorem ms_X12_25 : zq_MS RX12 25 yX12_tens 1 := ⟨Or.inl (zq_in (zq_t6 (List.mem_of_getElem? (i := 82) rfl)) rfl), zq_in (zq_t6 (List.mem_of_getElem? (i := 83) rfl)) rfl, mi_X12_tens⟩
theorem mi_X12_letterAt : zq_MI yX12_letterAt 2 := ⟨zq_in (zq_t1 (List.mem_of_getElem? (i := 10) rfl)) rfl, ⟨by decide, by decide⟩, by decide +kernel⟩
theorem cw_X12_letterAt : Cond.code yX12_letterAt cX12_letterAt 2 (some .int) ∈ zq_ws := zq_in (zq_t6 (List.mem_of_getElem? (i := 81) rfl)) rfl
theorem ms_X12_28 : zq_MS RX12 28 yX12_letterAt 2 := ⟨Or.inl (zq_in (zq_t6 (List.mem_of_getElem? (i := 79) rfl)) rfl), zq_in (zq_t6 (List.mem_of_getElem? (i := 80) rfl)) rfl, mi_X12_letterAt⟩
theorem mi_X12_isLetter : zq_MI yX12_isLetter 1 := ⟨zq_in (zq_t1 (List.mem_of_getElem? (i := 10) rfl)) rfl, ⟨by decide, by decide⟩, by decide +kernel⟩
theorem cw_X12_isLetter : Cond.code yX12_isLetter cX12_isLetter 1 (some .boolean) ∈ zq_ws := zq_in (zq_t6 (List.mem_of_getElem? (i := 87) rfl)) rfl
theorem ms_X12_32 : zq_MS RX12 32 yX12_isLetter 1 := ⟨Or.inl (zq_in (zq_t6 (List.mem_of_getElem? (i := 85) rfl)) rfl), zq_in (zq_t6 (List.mem_of_getElem? (i := 86) rfl)) rfl, mi_X12_isLetter⟩
theorem oi_X12_36 : Cond.methodLink RX12 36 Lib.objectInit ∈ zq_ws := zq_in (zq_t5 (List.mem_of_getElem? (i := 114) rfl)) rfl
theorem fl_X12_42 : zq_FL RX12 42 12 2 := ⟨_, _, _, rfl, by decide, zq_in (zq_t5 (List.mem_of_getElem? (i := 121) rfl)) rfl⟩
theorem pl_X12_42 : zq_PL RX12 "<init>" 42 12 2 := ⟨_, _, _, rfl, by decide, zq_in (zq_t5 (List.mem_of_getElem? (i := 121) rfl)) rfl, Or.inr ⟨rfl, rfl, rfl⟩⟩
theorem fl_X12_45 : zq_FL RX12 45 12 3 := ⟨_, _, _, rfl, by decide, zq_in (zq_t5 (List.mem_of_getElem? (i := 122) rfl)) rfl⟩
theorem pl_X12_45 : zq_PL RX12 "<init>" 45 12 3 := ⟨_, _, _, rfl, by decide, zq_in (zq_t5 (List.mem_of_getElem? (i := 122) rfl)) rfl, Or.inr ⟨rfl, rfl, rfl⟩⟩
theorem fl_X12_48 : zq_FL RX12 48 12 4 := ⟨_, _, _, rfl, by decide, zq_in (zq_t5 (List.mem_of_getElem? (i := 123) rfl)) rfl⟩
theorem pl_X12_48 : zq_PL RX12 "<init>" 48 12 4 := ⟨_, _, _, rfl, by decide, zq_in (zq_t5 (List.mem_of_getElem? (i := 123) rfl)) rfl, Or.inr ⟨rfl, rfl, rfl⟩⟩
theorem fl_X12_52 : zq_FL RX12 52 12 5 := ⟨_, _, _, rfl, by decide, zq_in (zq_t5 (List.mem_of_getElem? (i := 124) rfl)) rfl⟩
theorem pl_X12_52 : zq_PL RX12 "<init>" 52 12 5 := ⟨_, _, _, rfl, by decide, zq_in (zq_t5 (List.mem_of_getElem? (i := 124) rfl)) rfl, Or.inr ⟨rfl, rfl, rfl⟩⟩
theorem fl_X12_55 : zq_FL RX12 55 12 6 := ⟨_, _, _, rfl, by decide, zq_in (zq_t5 (List.mem_of_getElem? (i := 125) rfl)) rfl⟩
theorem pl_X12_55 : zq_PL RX12 "<init>" 55 12 6 := ⟨_, _, _, rfl, by decide, zq_in (zq_t5 (List.mem_of_getElem? (i := 125) rfl)) rfl, Or.inr ⟨rfl, rfl, rfl⟩⟩
theorem fl_X12_58 : zq_FL RX12 58 12 8 := ⟨_, _, _, rfl, by decide, zq_in (zq_t5 (List.mem_of_getElem? (i := 127) rfl)) rfl⟩
theorem pl_X12_58 : zq_PL RX12 "<init>" 58 12 8 := ⟨_, _, _, rfl, by decide, zq_in (zq_t5 (List.mem_of_getElem? (i := 127) rfl)) rfl, Or.inr ⟨rfl, rfl, rfl⟩⟩
theorem fl_X12_62 : zq_FL RX12 62 12 12 := ⟨_, _, _, rfl, by decide, zq_in (zq_t5 (List.mem_of_getElem? (i := 131) rfl)) rfl⟩
theorem pl_X12_62 : zq_PL RX12 "<init>" 62 12 12 := ⟨_, _, _, rfl, by decide, zq_in (zq_t5 (List.mem_of_getElem? (i := 131) rfl)) rfl, Or.inr ⟨rfl, rfl, rfl⟩⟩
theorem fl_X12_65 : zq_FL RX12 65 12 13 := ⟨_, _, _, rfl, by decide, zq_in (zq_t5 (List.mem_of_getElem? (i := 132) rfl)) rfl⟩
theorem pl_X12_65 : zq_PL RX12 "<init>" 65 12 13 := ⟨_, _, _, rfl, by decide, zq_in (zq_t5 (List.mem_of_getElem? (i := 132) rfl)) rfl, Or.inr ⟨rfl, rfl, rfl⟩⟩
theorem fl_X12_68 : zq_FL RX12 68 12 15 := ⟨_, _, _, rfl, by decide, zq_in (zq_t5 (List.mem_of_getElem? (i := 134) rfl)) rfl⟩
theorem pl_X12_68 (nm : String) : zq_PL RX12 nm 68 12 15 := ⟨_, _, _, rfl, by decide, zq_in (zq_t5 (List.mem_of_getElem? (i := 134) rfl)) rfl, Or.inl rfl⟩
theorem fl_X12_71 : zq_FL RX12 71 12 16 := ⟨_, _, _, rfl, by decide, zq_in (zq_t5 (List.mem_of_getElem? (i := 135) rfl)) rfl⟩
theorem pl_X12_71 : zq_PL RX12 "<init>" 71 12 16 := ⟨_, _, _, rfl, by decide, zq_in (zq_t5 (List.mem_of_getElem? (i := 135) rfl)) rfl, Or.inr ⟨rfl, rfl, rfl⟩⟩
theorem fl_X12_74 : zq_FL RX12 74 12 17 := ⟨_, _, _, rfl, by decide, zq_in (zq_t5 (List.mem_of_getElem? (i := 136) rfl)) rfl⟩
theorem pl_X12_74 : zq_PL RX12 "<init>" 74 12 17 := ⟨_, _, _, rfl, by decide, zq_in (zq_t5 (List.mem_of_getElem? (i := 136) rfl)) rfl, Or.inr ⟨rfl, rfl, rfl⟩⟩
theorem fl_X12_77 : zq_FL RX12 77 12 18 := ⟨_, _, _, rfl, by decide, zq_in (zq_t5 (List.mem_of_getElem? (i := 137) rfl)) rfl⟩
theorem pl_X12_77 : zq_PL RX12 "<init>" 77 12 18 := ⟨_, _, _, rfl, by decide, zq_in (zq_t5 (List.mem_of_getElem? (i := 137) rfl)) rfl, Or.inr ⟨rfl, rfl, rfl⟩⟩
theorem fl_X12_80 : zq_FL RX12 80 12 27 := ⟨_, _, _, rfl, by decide, zq_in (zq_t5 (List.mem_of_getElem? (i := 146) rfl)) rfl⟩
theorem pl_X12_80 : zq_PL RX12 "<init>" 80 12 27 := ⟨_, _, _, rfl, by decide, zq_in (zq_t5 (List.mem_of_getElem? (i := 146) rfl)) rfl, Or.inr ⟨rfl, rfl, rfl⟩⟩
theorem fl_X12_83 : zq_FL RX12 83 12 30 := ⟨_, _, _, rfl, by decide, zq_in (zq_t5 (List.mem_of_getElem? (i := 149) rfl)) rfl⟩
theorem pl_X12_83 : zq_PL RX12 "<init>" 83 12 30 := ⟨_, _, _, rfl, by decide, zq_in (zq_t5 (List.mem_of_getElem? (i := 149) rfl)) rfl, Or.inr ⟨rfl, rfl, rfl⟩⟩
theorem fl_X12_86 : zq_FL RX12 86 12 31 := ⟨_, _, _, rfl, by decide, zq_in (zq_t5 (List.mem_of_getElem? (i := 150) rfl)) rfl⟩
theorem pl_X12_86 : zq_PL RX12 "<init>" 86 12 31 := ⟨_, _, _, rfl, by decide, zq_in (zq_t5 (List.mem_of_getElem? (i := 150) rfl)) rfl, Or.inr ⟨rfl, rfl, rfl⟩⟩
theorem fl_X12_89 : zq_FL RX12 89 12 32 := ⟨_, _, _, rfl, by decide, zq_in (zq_t5 (List.mem_of_getElem? (i := 151) rfl)) rfl⟩
theorem pl_X12_89 : zq_PL RX12 "<init>" 89 12 32 := ⟨_, _, _, rfl, by decide, zq_in (zq_t5 (List.mem_of_getElem? (i := 151) rfl)) rfl, Or.inr ⟨rfl, rfl, rfl⟩⟩
theorem fl_X12_92 : zq_FL RX12 92 12 33 := ⟨_, _, _, rfl, by decide, zq_in (zq_t5 (List.mem_of_getElem? (i := 152) rfl)) rfl⟩
theorem pl_X12_92 : zq_PL RX12 "<init>" 92 12 33 := ⟨_, _, _, rfl, by decide, zq_in (zq_t5 (List.mem_of_getElem? (i := 152) rfl)) rfl, Or.inr ⟨rfl, rfl, rfl⟩⟩
theorem fl_X12_95 : zq_FL RX12 95 12 34 := ⟨_, _, _, rfl, by decide, zq_in (zq_t5 (List.mem_of_getElem? (i := 153) rfl)) rfl⟩
theorem pl_X12_95 : zq_PL RX12 "<init>" 95 12 34 := ⟨_, _, _, rfl, by decide, zq_in (zq_t5 (List.mem_of_getElem? (i := 153) rfl)) rfl, Or.inr ⟨rfl, rfl, rfl⟩⟩
theorem fl_X12_98 : zq_FL RX12 98 12 36 := ⟨_, _, _, rfl, by decide, zq_in (zq_t5 (List.mem_of_getElem? (i := 155) rfl)) rfl⟩
theorem pl_X12_98 : zq_PL RX12 "<init>" 98 12 36 := ⟨_, _, _, rfl, by decide, zq_in (zq_t5 (List.mem_of_getElem? (i := 155) rfl)) rfl, Or.inr ⟨rfl, rfl, rfl⟩⟩
theorem fl_X12_101 : zq_FL RX12 101 12 37 := ⟨_, _, _, rfl, by decide, zq_in (zq_t5 (List.mem_of_getElem? (i := 156) rfl)) rfl⟩
theorem pl_X12_101 : zq_PL RX12 "<init>" 101 12 37 := ⟨_, _, _, rfl, by decide, zq_in (zq_t5 (List.mem_of_getElem? (i := 156) rfl)) rfl, Or.inr ⟨rfl, rfl, rfl⟩⟩
theorem fl_X12_104 : zq_FL RX12 104 12 38 := ⟨_, _, _, rfl, by decide, zq_in (zq_t5 (List.mem_of_getElem? (i := 157) rfl)) rfl⟩
theorem pl_X12_104 : zq_PL RX12 "<init>" 104 12 38 := ⟨_, _, _, rfl, by decide, zq_in (zq_t5 (List.mem_of_getElem? (i := 157) rfl)) rfl, Or.inr ⟨rfl, rfl, rfl⟩⟩
theorem fl_X12_107 : zq_FL RX12 107 12 39 := ⟨_, _, _, rfl, by decide, zq_in (zq_t5 (List.mem_of_getElem? (i := 158) rfl)) rfl⟩
theorem pl_X12_107 : zq_PL RX12 "<init>" 107 12 39 := ⟨_, _, _, rfl, by decide, zq_in (zq_t5 (List.mem_of_getElem? (i := 158) rfl)) rfl, Or.inr ⟨rfl, rfl, rfl⟩⟩
theorem fl_X12_110 : zq_FL RX12 110 12 41 := ⟨_, _, _, rfl, by decide, zq_in (zq_t5 (List.mem_of_getElem? (i := 160) rfl)) rfl⟩
theorem pl_X12_110 : zq_PL RX12 "<init>" 110 12 41 := ⟨_, _, _, rfl, by decide, zq_in (zq_t5 (List.mem_of_getElem? (i := 160) rfl)) rfl, Or.inr ⟨rfl, rfl, rfl⟩⟩
theorem fl_X12_114 : zq_FL RX12 114 12 42 := ⟨_, _, _, rfl, by decide, zq_in (zq_t5 (List.mem_of_getElem? (i := 161) rfl)) rfl⟩
theorem pl_X12_114 : zq_PL RX12 "<init>" 114 12 42 := ⟨_, _, _, rfl, by decide, zq_in (zq_t5 (List.mem_of_getElem? (i := 161) rfl)) rfl, Or.inr ⟨rfl, rfl, rfl⟩⟩
theorem fl_X12_117 : zq_FL RX12 117 12 43 := ⟨_, _, _, rfl, by decide, zq_in (zq_t5 (List.mem_of_getElem? (i := 162) rfl)) rfl⟩
theorem pl_X12_117 : zq_PL RX12 "<init>" 117 12 43 := ⟨_, _, _, rfl, by decide, zq_in (zq_t5 (List.mem_of_getElem? (i := 162) rfl)) rfl, Or.inr ⟨rfl, rfl, rfl⟩⟩
theorem fl_X12_120 : zq_FL RX12 120 12 45 := ⟨_, _, _, rfl, by decide, zq_in (zq_t5 (List.mem_of_getElem? (i := 164) rfl)) rfl⟩
theorem pl_X12_120 (nm : String) : zq_PL RX12 nm 120 12 45 := ⟨_, _, _, rfl, by decide, zq_in (zq_t5 (List.mem_of_getElem? (i := 164) rfl)) rfl, Or.inl rfl⟩
theorem fl_X12_123 : zq_FL RX12 123 12 51 := ⟨_, _, _, rfl, by decide, zq_in (zq_t5 (List.mem_of_getElem? (i := 170) rfl)) rfl⟩
theorem pl_X12_123 : zq_PL RX12 "<init>" 123 12 51 := ⟨_, _, _, rfl, by decide, zq_in (zq_t5 (List.mem_of_getElem? (i := 170) rfl)) rfl, Or.inr ⟨rfl, rfl, rfl⟩⟩
theorem fl_X12_126 : zq_FL RX12 126 12 52 := ⟨_, _, _, rfl, by decide, zq_in (zq_t5 (List.mem_of_getElem? (i := 171) rfl)) rfl⟩
theorem pl_X12_126 : zq_PL RX12 "<init>" 126 12 52 := ⟨_, _, _, rfl, by decide, zq_in (zq_t5 (List.mem_of_getElem? (i := 171) rfl)) rfl, Or.inr ⟨rfl, rfl, rfl⟩⟩
theorem fl_X12_129 : zq_FL RX12 129 12 53 := ⟨_, _, _, rfl, by decide, zq_in (zq_t5 (List.mem_of_getElem? (i := 172) rfl)) rfl⟩
theorem pl_X12_129 (nm : String) : zq_PL RX12 nm 129 12 53 := ⟨_, _, _, rfl, by decide, zq_in (zq_t5 (List.mem_of_getElem? (i := 172) rfl)) rfl, Or.inl rfl⟩
theorem mi_X12_laysRank : zq_MI yX12_laysRank 0 := ⟨zq_in (zq_t1 (List.mem_of_getElem? (i := 10) rfl)) rfl, ⟨by decide, by decide⟩, by decide +kernel⟩
theorem cw_X12_laysRank : Cond.code yX12_laysRank cX12_laysRank 2 none ∈ zq_ws := zq_in (zq_t5 (List.mem_of_getElem? (i := 118) rfl)) rfl
theorem mv_X12_132 : zq_MV RX12 132 12 yX12_laysRank 0 := ⟨zq_in (zq_t5 (List.mem_of_getElem? (i := 115) rfl)) rfl, zq_in (zq_t5 (List.mem_of_getElem? (i := 117) rfl)) rfl, ⟨_, rfl, zq_in (zq_ts (List.mem_of_getElem? (i := 47) rfl)) rfl⟩, mi_X12_laysRank⟩
theorem mi_X12_refuses : zq_MI yX12_refuses 1 := ⟨zq_in (zq_t1 (List.mem_of_getElem? (i := 10) rfl)) rfl, ⟨by decide, by decide⟩, by decide +kernel⟩
theorem cw_X12_refuses : Cond.code yX12_refuses cX12_refuses 2 (some .int) ∈ zq_ws := zq_in (zq_t6 (List.mem_of_getElem? (i := 56) rfl)) rfl
theorem mv_X12_135 : zq_MV RX12 135 12 yX12_refuses 1 := ⟨zq_in (zq_t6 (List.mem_of_getElem? (i := 53) rfl)) rfl, zq_in (zq_t6 (List.mem_of_getElem? (i := 55) rfl)) rfl, ⟨_, rfl, zq_in (zq_ts (List.mem_of_getElem? (i := 48) rfl)) rfl⟩, mi_X12_refuses⟩
theorem mi_X12_settled : zq_MI yX12_settled 1 := ⟨zq_in (zq_t1 (List.mem_of_getElem? (i := 10) rfl)) rfl, ⟨by decide, by decide⟩, by decide +kernel⟩
theorem cw_X12_settled : Cond.code yX12_settled cX12_settled 2 (some .int) ∈ zq_ws := zq_in (zq_t6 (List.mem_of_getElem? (i := 68) rfl)) rfl
theorem mv_X12_138 : zq_MV RX12 138 12 yX12_settled 1 := ⟨zq_in (zq_t6 (List.mem_of_getElem? (i := 65) rfl)) rfl, zq_in (zq_t6 (List.mem_of_getElem? (i := 67) rfl)) rfl, ⟨_, rfl, zq_in (zq_ts (List.mem_of_getElem? (i := 50) rfl)) rfl⟩, mi_X12_settled⟩
theorem mi_X12_many : zq_MI yX12_many 0 := ⟨zq_in (zq_t1 (List.mem_of_getElem? (i := 10) rfl)) rfl, ⟨by decide, by decide⟩, by decide +kernel⟩
theorem cw_X12_many : Cond.code yX12_many cX12_many 1 (some .int) ∈ zq_ws := zq_in (zq_t6 (List.mem_of_getElem? (i := 91) rfl)) rfl
theorem mv_X12_141 : zq_MV RX12 141 12 yX12_many 0 := ⟨zq_in (zq_t6 (List.mem_of_getElem? (i := 88) rfl)) rfl, zq_in (zq_t6 (List.mem_of_getElem? (i := 90) rfl)) rfl, ⟨_, rfl, zq_in (zq_ts (List.mem_of_getElem? (i := 51) rfl)) rfl⟩, mi_X12_many⟩
theorem mi_X12_isName : zq_MI yX12_isName 1 := ⟨zq_in (zq_t1 (List.mem_of_getElem? (i := 10) rfl)) rfl, ⟨by decide, by decide⟩, by decide +kernel⟩
theorem cw_X12_isName : Cond.code yX12_isName cX12_isName 3 (some .boolean) ∈ zq_ws := zq_in (zq_t6 (List.mem_of_getElem? (i := 75) rfl)) rfl
theorem ms_X12_145 : zq_MS RX12 145 yX12_isName 1 := ⟨Or.inl (zq_in (zq_t6 (List.mem_of_getElem? (i := 73) rfl)) rfl), zq_in (zq_t6 (List.mem_of_getElem? (i := 74) rfl)) rfl, mi_X12_isName⟩
theorem mi_X12_adds : zq_MI yX12_adds 1 := ⟨zq_in (zq_t1 (List.mem_of_getElem? (i := 10) rfl)) rfl, ⟨by decide, by decide⟩, by decide +kernel⟩
theorem cw_X12_adds : Cond.code yX12_adds cX12_adds 4 none ∈ zq_ws := zq_in (zq_t6 (List.mem_of_getElem? (i := 95) rfl)) rfl
theorem mv_X12_148 : zq_MV RX12 148 12 yX12_adds 1 := ⟨zq_in (zq_t6 (List.mem_of_getElem? (i := 92) rfl)) rfl, zq_in (zq_t6 (List.mem_of_getElem? (i := 94) rfl)) rfl, ⟨_, rfl, zq_in (zq_ts (List.mem_of_getElem? (i := 52) rfl)) rfl⟩, mi_X12_adds⟩
theorem mi_X12_isPerson : zq_MI yX12_isPerson 1 := ⟨zq_in (zq_t1 (List.mem_of_getElem? (i := 10) rfl)) rfl, ⟨by decide, by decide⟩, by decide +kernel⟩
theorem cw_X12_isPerson : Cond.code yX12_isPerson cX12_isPerson 2 (some .boolean) ∈ zq_ws := zq_in (zq_t6 (List.mem_of_getElem? (i := 103) rfl)) rfl
theorem mv_X12_152 : zq_MV RX12 152 12 yX12_isPerson 1 := ⟨zq_in (zq_t6 (List.mem_of_getElem? (i := 100) rfl)) rfl, zq_in (zq_t6 (List.mem_of_getElem? (i := 102) rfl)) rfl, ⟨_, rfl, zq_in (zq_ts (List.mem_of_getElem? (i := 53) rfl)) rfl⟩, mi_X12_isPerson⟩
theorem mi_X12_placeOf : zq_MI yX12_placeOf 1 := ⟨zq_in (zq_t1 (List.mem_of_getElem? (i := 10) rfl)) rfl, ⟨by decide, by decide⟩, by decide +kernel⟩
theorem cw_X12_placeOf : Cond.code yX12_placeOf cX12_placeOf 4 (some .int) ∈ zq_ws := zq_in (zq_t6 (List.mem_of_getElem? (i := 107) rfl)) rfl
theorem mv_X12_155 : zq_MV RX12 155 12 yX12_placeOf 1 := ⟨zq_in (zq_t6 (List.mem_of_getElem? (i := 104) rfl)) rfl, zq_in (zq_t6 (List.mem_of_getElem? (i := 106) rfl)) rfl, ⟨_, rfl, zq_in (zq_ts (List.mem_of_getElem? (i := 54) rfl)) rfl⟩, mi_X12_placeOf⟩
theorem mi_X12_stepOf : zq_MI yX12_stepOf 1 := ⟨zq_in (zq_t1 (List.mem_of_getElem? (i := 10) rfl)) rfl, ⟨by decide, by decide⟩, by decide +kernel⟩
theorem cw_X12_stepOf : Cond.code yX12_stepOf cX12_stepOf 2 (some .int) ∈ zq_ws := zq_in (zq_t6 (List.mem_of_getElem? (i := 111) rfl)) rfl
theorem mv_X12_158 : zq_MV RX12 158 12 yX12_stepOf 1 := ⟨zq_in (zq_t6 (List.mem_of_getElem? (i := 108) rfl)) rfl, zq_in (zq_t6 (List.mem_of_getElem? (i := 110) rfl)) rfl, ⟨_, rfl, zq_in (zq_ts (List.mem_of_getElem? (i := 55) rfl)) rfl⟩, mi_X12_stepOf⟩
theorem mi_X12_isBarred : zq_MI yX12_isBarred 1 := ⟨zq_in (zq_t1 (List.mem_of_getElem? (i := 10) rfl)) rfl, ⟨by decide, by decide⟩, by decide +kernel⟩
theorem cw_X12_isBarred : Cond.code yX12_isBarred cX12_isBarred 2 (some .boolean) ∈ zq_ws := zq_in (zq_t6 (List.mem_of_getElem? (i := 201) rfl)) rfl
theorem mv_X12_161 : zq_MV RX12 161 12 yX12_isBarred 1 := ⟨zq_in (zq_t6 (List.mem_of_getElem? (i := 198) rfl)) rfl, zq_in (zq_t6 (List.mem_of_getElem? (i := 200) rfl)) rfl, ⟨_, rfl, zq_in (zq_ts (List.mem_of_getElem? (i := 72) rfl)) rfl⟩, mi_X12_isBarred⟩
theorem mi_X12_strokeOf : zq_MI yX12_strokeOf 3 := ⟨zq_in (zq_t1 (List.mem_of_getElem? (i := 10) rfl)) rfl, ⟨by decide, by decide⟩, by decide +kernel⟩
theorem cw_X12_strokeOf : Cond.code yX12_strokeOf cX12_strokeOf 4 (some .int) ∈ zq_ws := zq_in (zq_t6 (List.mem_of_getElem? (i := 210) rfl)) rfl
theorem mv_X12_164 : zq_MV RX12 164 12 yX12_strokeOf 3 := ⟨zq_in (zq_t6 (List.mem_of_getElem? (i := 207) rfl)) rfl, zq_in (zq_t6 (List.mem_of_getElem? (i := 209) rfl)) rfl, ⟨_, rfl, zq_in (zq_ts (List.mem_of_getElem? (i := 73) rfl)) rfl⟩, mi_X12_strokeOf⟩
theorem mi_X12_isTerm : zq_MI yX12_isTerm 2 := ⟨zq_in (zq_t1 (List.mem_of_getElem? (i := 10) rfl)) rfl, ⟨by decide, by decide⟩, by decide +kernel⟩
theorem cw_X12_isTerm : Cond.code yX12_isTerm cX12_isTerm 2 (some .boolean) ∈ zq_ws := zq_in (zq_t6 (List.mem_of_getElem? (i := 225) rfl)) rfl
theorem ms_X12_168 : zq_MS RX12 168 yX12_isTerm 2 := ⟨Or.inl (zq_in (zq_t6 (List.mem_of_getElem? (i := 223) rfl)) rfl), zq_in (zq_t6 (List.mem_of_getElem? (i := 224) rfl)) rfl, mi_X12_isTerm⟩
theorem mi_X12_termAt : zq_MI yX12_termAt 1 := ⟨zq_in (zq_t1 (List.mem_of_getElem? (i := 10) rfl)) rfl, ⟨by decide, by decide⟩, by decide +kernel⟩
theorem cw_X12_termAt : Cond.code yX12_termAt cX12_termAt 1 (some .int) ∈ zq_ws := zq_in (zq_t6 (List.mem_of_getElem? (i := 228) rfl)) rfl
theorem ms_X12_172 : zq_MS RX12 172 yX12_termAt 1 := ⟨Or.inl (zq_in (zq_t6 (List.mem_of_getElem? (i := 226) rfl)) rfl), zq_in (zq_t6 (List.mem_of_getElem? (i := 227) rfl)) rfl, mi_X12_termAt⟩
theorem fl_X12_175 : zq_FL RX12 175 12 14 := ⟨_, _, _, rfl, by decide, zq_in (zq_t5 (List.mem_of_getElem? (i := 133) rfl)) rfl⟩
theorem pl_X12_175 (nm : String) : zq_PL RX12 nm 175 12 14 := ⟨_, _, _, rfl, by decide, zq_in (zq_t5 (List.mem_of_getElem? (i := 133) rfl)) rfl, Or.inl rfl⟩
theorem fl_X12_178 : zq_FL RX12 178 12 7 := ⟨_, _, _, rfl, by decide, zq_in (zq_t5 (List.mem_of_getElem? (i := 126) rfl)) rfl⟩
theorem pl_X12_178 (nm : String) : zq_PL RX12 nm 178 12 7 := ⟨_, _, _, rfl, by decide, zq_in (zq_t5 (List.mem_of_getElem? (i := 126) rfl)) rfl, Or.inl rfl⟩
theorem mi_X12_toldName : zq_MI yX12_toldName 1 := ⟨zq_in (zq_t1 (List.mem_of_getElem? (i := 10) rfl)) rfl, ⟨by decide, by decide⟩, by decide +kernel⟩
theorem cw_X12_toldName : Cond.code yX12_toldName cX12_toldName 6 (some .int) ∈ zq_ws := zq_in (zq_t6 (List.mem_of_getElem? (i := 236) rfl)) rfl
theorem mv_X12_181 : zq_MV RX12 181 12 yX12_toldName 1 := ⟨zq_in (zq_t6 (List.mem_of_getElem? (i := 233) rfl)) rfl, zq_in (zq_t6 (List.mem_of_getElem? (i := 235) rfl)) rfl, ⟨_, rfl, zq_in (zq_ts (List.mem_of_getElem? (i := 74) rfl)) rfl⟩, mi_X12_toldName⟩
theorem fl_X12_184 : zq_FL RX12 184 12 19 := ⟨_, _, _, rfl, by decide, zq_in (zq_t5 (List.mem_of_getElem? (i := 138) rfl)) rfl⟩
theorem pl_X12_184 (nm : String) : zq_PL RX12 nm 184 12 19 := ⟨_, _, _, rfl, by decide, zq_in (zq_t5 (List.mem_of_getElem? (i := 138) rfl)) rfl, Or.inl rfl⟩
theorem mi_X12_isSmall : zq_MI yX12_isSmall 1 := ⟨zq_in (zq_t1 (List.mem_of_getElem? (i := 10) rfl)) rfl, ⟨by decide, by decide⟩, by decide +kernel⟩
theorem cw_X12_isSmall : Cond.code yX12_isSmall cX12_isSmall 1 (some .boolean) ∈ zq_ws := zq_in (zq_t7 (List.mem_of_getElem? (i := 27) rfl)) rfl
theorem ms_X12_187 : zq_MS RX12 187 yX12_isSmall 1 := ⟨Or.inl (zq_in (zq_t7 (List.mem_of_getElem? (i := 25) rfl)) rfl), zq_in (zq_t7 (List.mem_of_getElem? (i := 26) rfl)) rfl, mi_X12_isSmall⟩
theorem mi_X12_isDigit : zq_MI yX12_isDigit 1 := ⟨zq_in (zq_t1 (List.mem_of_getElem? (i := 10) rfl)) rfl, ⟨by decide, by decide⟩, by decide +kernel⟩
theorem cw_X12_isDigit : Cond.code yX12_isDigit cX12_isDigit 1 (some .boolean) ∈ zq_ws := zq_in (zq_t7 (List.mem_of_getElem? (i := 30) rfl)) rfl
theorem ms_X12_190 : zq_MS RX12 190 yX12_isDigit 1 := ⟨Or.inl (zq_in (zq_t7 (List.mem_of_getElem? (i := 28) rfl)) rfl), zq_in (zq_t7 (List.mem_of_getElem? (i := 29) rfl)) rfl, mi_X12_isDigit⟩
theorem mi_X12_wordOf : zq_MI yX12_wordOf 2 := ⟨zq_in (zq_t1 (List.mem_of_getElem? (i := 10) rfl)) rfl, ⟨by decide, by decide⟩, by decide +kernel⟩
theorem cw_X12_wordOf : Cond.code yX12_wordOf cX12_wordOf 8 (some .int) ∈ zq_ws := zq_in (zq_t7 (List.mem_of_getElem? (i := 34) rfl)) rfl
theorem mv_X12_193 : zq_MV RX12 193 12 yX12_wordOf 2 := ⟨zq_in (zq_t7 (List.mem_of_getElem? (i := 31) rfl)) rfl, zq_in (zq_t7 (List.mem_of_getElem? (i := 33) rfl)) rfl, ⟨_, rfl, zq_in (zq_ts (List.mem_of_getElem? (i := 78) rfl)) rfl⟩, mi_X12_wordOf⟩
theorem kc_X12_196 : Cond.constant RX12 196 (1000000) ∈ zq_ws := zq_in (zq_t7 (List.mem_of_getElem? (i := 35) rfl)) rfl
theorem fl_X12_197 : zq_FL RX12 197 12 22 := ⟨_, _, _, rfl, by decide, zq_in (zq_t5 (List.mem_of_getElem? (i := 141) rfl)) rfl⟩
theorem pl_X12_197 (nm : String) : zq_PL RX12 nm 197 12 22 := ⟨_, _, _, rfl, by decide, zq_in (zq_t5 (List.mem_of_getElem? (i := 141) rfl)) rfl, Or.inl rfl⟩
theorem mi_X12_fine : zq_MI yX12_fine 0 := ⟨zq_in (zq_t1 (List.mem_of_getElem? (i := 10) rfl)) rfl, ⟨by decide, by decide⟩, by decide +kernel⟩
theorem cw_X12_fine : Cond.code yX12_fine cX12_fine 1 (some .boolean) ∈ zq_ws := zq_in (zq_t7 (List.mem_of_getElem? (i := 51) rfl)) rfl
theorem mv_X12_200 : zq_MV RX12 200 12 yX12_fine 0 := ⟨zq_in (zq_t7 (List.mem_of_getElem? (i := 48) rfl)) rfl, zq_in (zq_t7 (List.mem_of_getElem? (i := 50) rfl)) rfl, ⟨_, rfl, zq_in (zq_ts (List.mem_of_getElem? (i := 82) rfl)) rfl⟩, mi_X12_fine⟩
theorem fl_X12_204 : zq_FL RX12 204 12 20 := ⟨_, _, _, rfl, by decide, zq_in (zq_t5 (List.mem_of_getElem? (i := 139) rfl)) rfl⟩
theorem pl_X12_204 (nm : String) : zq_PL RX12 nm 204 12 20 := ⟨_, _, _, rfl, by decide, zq_in (zq_t5 (List.mem_of_getElem? (i := 139) rfl)) rfl, Or.inl rfl⟩
theorem mi_X12_takes0 : zq_MI yX12_takes0 1 := ⟨zq_in (zq_t1 (List.mem_of_getElem? (i := 10) rfl)) rfl, ⟨by decide, by decide⟩, by decide +kernel⟩
theorem cw_X12_takes0 : Cond.code yX12_takes0 cX12_takes0 3 (some .boolean) ∈ zq_ws := zq_in (zq_t7 (List.mem_of_getElem? (i := 47) rfl)) rfl
theorem mv_X12_207 : zq_MV RX12 207 12 yX12_takes0 1 := ⟨zq_in (zq_t7 (List.mem_of_getElem? (i := 44) rfl)) rfl, zq_in (zq_t7 (List.mem_of_getElem? (i := 46) rfl)) rfl, ⟨_, rfl, zq_in (zq_ts (List.mem_of_getElem? (i := 81) rfl)) rfl⟩, mi_X12_takes0⟩
theorem mi_X12_faults : zq_MI yX12_faults 0 := ⟨zq_in (zq_t1 (List.mem_of_getElem? (i := 10) rfl)) rfl, ⟨by decide, by decide⟩, by decide +kernel⟩
theorem cw_X12_faults : Cond.code yX12_faults cX12_faults 1 none ∈ zq_ws := zq_in (zq_t7 (List.mem_of_getElem? (i := 67) rfl)) rfl
theorem mv_X12_210 : zq_MV RX12 210 12 yX12_faults 0 := ⟨zq_in (zq_t7 (List.mem_of_getElem? (i := 64) rfl)) rfl, zq_in (zq_t7 (List.mem_of_getElem? (i := 66) rfl)) rfl, ⟨_, rfl, zq_in (zq_ts (List.mem_of_getElem? (i := 86) rfl)) rfl⟩, mi_X12_faults⟩
theorem fl_X12_213 : zq_FL RX12 213 12 21 := ⟨_, _, _, rfl, by decide, zq_in (zq_t5 (List.mem_of_getElem? (i := 140) rfl)) rfl⟩
theorem pl_X12_213 (nm : String) : zq_PL RX12 nm 213 12 21 := ⟨_, _, _, rfl, by decide, zq_in (zq_t5 (List.mem_of_getElem? (i := 140) rfl)) rfl, Or.inl rfl⟩
theorem mi_X12_readSum : zq_MI yX12_readSum 1 := ⟨zq_in (zq_t1 (List.mem_of_getElem? (i := 10) rfl)) rfl, ⟨by decide, by decide⟩, by decide +kernel⟩
theorem cw_X12_readSum : Cond.code yX12_readSum cX12_readSum 2 none ∈ zq_ws := zq_in (zq_t7 (List.mem_of_getElem? (i := 55) rfl)) rfl
theorem mv_X12_216 : zq_MV RX12 216 12 yX12_readSum 1 := ⟨zq_in (zq_t7 (List.mem_of_getElem? (i := 52) rfl)) rfl, zq_in (zq_t7 (List.mem_of_getElem? (i := 54) rfl)) rfl, ⟨_, rfl, zq_in (zq_ts (List.mem_of_getElem? (i := 83) rfl)) rfl⟩, mi_X12_readSum⟩
theorem mi_X12_must : zq_MI yX12_must 1 := ⟨zq_in (zq_t1 (List.mem_of_getElem? (i := 10) rfl)) rfl, ⟨by decide, by decide⟩, by decide +kernel⟩
theorem cw_X12_must : Cond.code yX12_must cX12_must 2 none ∈ zq_ws := zq_in (zq_t7 (List.mem_of_getElem? (i := 71) rfl)) rfl
theorem mv_X12_219 : zq_MV RX12 219 12 yX12_must 1 := ⟨zq_in (zq_t7 (List.mem_of_getElem? (i := 68) rfl)) rfl, zq_in (zq_t7 (List.mem_of_getElem? (i := 70) rfl)) rfl, ⟨_, rfl, zq_in (zq_ts (List.mem_of_getElem? (i := 87) rfl)) rfl⟩, mi_X12_must⟩
theorem mi_X12_readTest : zq_MI yX12_readTest 1 := ⟨zq_in (zq_t1 (List.mem_of_getElem? (i := 10) rfl)) rfl, ⟨by decide, by decide⟩, by decide +kernel⟩
theorem cw_X12_readTest : Cond.code yX12_readTest cX12_readTest 2 none ∈ zq_ws := zq_in (zq_t7 (List.mem_of_getElem? (i := 83) rfl)) rfl
theorem mv_X12_222 : zq_MV RX12 222 12 yX12_readTest 1 := ⟨zq_in (zq_t7 (List.mem_of_getElem? (i := 80) rfl)) rfl, zq_in (zq_t7 (List.mem_of_getElem? (i := 82) rfl)) rfl, ⟨_, rfl, zq_in (zq_ts (List.mem_of_getElem? (i := 90) rfl)) rfl⟩, mi_X12_readTest⟩
theorem mi_X12_mustNumber : zq_MI yX12_mustNumber 2 := ⟨zq_in (zq_t1 (List.mem_of_getElem? (i := 10) rfl)) rfl, ⟨by decide, by decide⟩, by decide +kernel⟩
theorem cw_X12_mustNumber : Cond.code yX12_mustNumber cX12_mustNumber 3 none ∈ zq_ws := zq_in (zq_t7 (List.mem_of_getElem? (i := 79) rfl)) rfl
theorem mv_X12_225 : zq_MV RX12 225 12 yX12_mustNumber 2 := ⟨zq_in (zq_t7 (List.mem_of_getElem? (i := 76) rfl)) rfl, zq_in (zq_t7 (List.mem_of_getElem? (i := 78) rfl)) rfl, ⟨_, rfl, zq_in (zq_ts (List.mem_of_getElem? (i := 89) rfl)) rfl⟩, mi_X12_mustNumber⟩
theorem fl_X12_229 : zq_FL RX12 229 12 11 := ⟨_, _, _, rfl, by decide, zq_in (zq_t5 (List.mem_of_getElem? (i := 130) rfl)) rfl⟩
theorem pl_X12_229 (nm : String) : zq_PL RX12 nm 229 12 11 := ⟨_, _, _, rfl, by decide, zq_in (zq_t5 (List.mem_of_getElem? (i := 130) rfl)) rfl, Or.inl rfl⟩
theorem mi_X12_readOrder : zq_MI yX12_readOrder 0 := ⟨zq_in (zq_t1 (List.mem_of_getElem? (i := 10) rfl)) rfl, ⟨by decide, by decide⟩, by decide +kernel⟩
theorem cw_X12_readOrder : Cond.code yX12_readOrder cX12_readOrder 1 none ∈ zq_ws := zq_in (zq_t7 (List.mem_of_getElem? (i := 43) rfl)) rfl
theorem mv_X12_233 : zq_MV RX12 233 12 yX12_readOrder 0 := ⟨zq_in (zq_t7 (List.mem_of_getElem? (i := 40) rfl)) rfl, zq_in (zq_t7 (List.mem_of_getElem? (i := 42) rfl)) rfl, ⟨_, rfl, zq_in (zq_ts (List.mem_of_getElem? (i := 80) rfl)) rfl⟩, mi_X12_readOrder⟩
theorem mi_X12_readClause : zq_MI yX12_readClause 0 := ⟨zq_in (zq_t1 (List.mem_of_getElem? (i := 10) rfl)) rfl, ⟨by decide, by decide⟩, by decide +kernel⟩
theorem cw_X12_readClause : Cond.code yX12_readClause cX12_readClause 1 none ∈ zq_ws := zq_in (zq_t7 (List.mem_of_getElem? (i := 95) rfl)) rfl
theorem mv_X12_236 : zq_MV RX12 236 12 yX12_readClause 0 := ⟨zq_in (zq_t7 (List.mem_of_getElem? (i := 92) rfl)) rfl, zq_in (zq_t7 (List.mem_of_getElem? (i := 94) rfl)) rfl, ⟨_, rfl, zq_in (zq_ts (List.mem_of_getElem? (i := 93) rfl)) rfl⟩, mi_X12_readClause⟩
theorem mi_X12_readBoth : zq_MI yX12_readBoth 1 := ⟨zq_in (zq_t1 (List.mem_of_getElem? (i := 10) rfl)) rfl, ⟨by decide, by decide⟩, by decide +kernel⟩
theorem cw_X12_readBoth : Cond.code yX12_readBoth cX12_readBoth 2 none ∈ zq_ws := zq_in (zq_t7 (List.mem_of_getElem? (i := 87) rfl)) rfl
theorem mv_X12_239 : zq_MV RX12 239 12 yX12_readBoth 1 := ⟨zq_in (zq_t7 (List.mem_of_getElem? (i := 84) rfl)) rfl, zq_in (zq_t7 (List.mem_of_getElem? (i := 86) rfl)) rfl, ⟨_, rfl, zq_in (zq_ts (List.mem_of_getElem? (i := 91) rfl)) rfl⟩, mi_X12_readBoth⟩
theorem mi_X12_readPlain : zq_MI yX12_readPlain 1 := ⟨zq_in (zq_t1 (List.mem_of_getElem? (i := 10) rfl)) rfl, ⟨by decide, by decide⟩, by decide +kernel⟩
theorem cw_X12_readPlain : Cond.code yX12_readPlain cX12_readPlain 4 none ∈ zq_ws := zq_in (zq_t7 (List.mem_of_getElem? (i := 91) rfl)) rfl
theorem mv_X12_242 : zq_MV RX12 242 12 yX12_readPlain 1 := ⟨zq_in (zq_t7 (List.mem_of_getElem? (i := 88) rfl)) rfl, zq_in (zq_t7 (List.mem_of_getElem? (i := 90) rfl)) rfl, ⟨_, rfl, zq_in (zq_ts (List.mem_of_getElem? (i := 92) rfl)) rfl⟩, mi_X12_readPlain⟩
theorem mi_X12_sign : zq_MI yX12_sign 1 := ⟨zq_in (zq_t1 (List.mem_of_getElem? (i := 10) rfl)) rfl, ⟨by decide, by decide⟩, by decide +kernel⟩
theorem cw_X12_sign : Cond.code yX12_sign cX12_sign 1 (some .int) ∈ zq_ws := zq_in (zq_t6 (List.mem_of_getElem? (i := 138) rfl)) rfl
theorem ms_X12_245 : zq_MS RX12 245 yX12_sign 1 := ⟨Or.inl (zq_in (zq_t6 (List.mem_of_getElem? (i := 136) rfl)) rfl), zq_in (zq_t6 (List.mem_of_getElem? (i := 137) rfl)) rfl, mi_X12_sign⟩
theorem mi_X12_readTerm : zq_MI yX12_readTerm 1 := ⟨zq_in (zq_t1 (List.mem_of_getElem? (i := 10) rfl)) rfl, ⟨by decide, by decide⟩, by decide +kernel⟩
theorem cw_X12_readTerm : Cond.code yX12_readTerm cX12_readTerm 2 none ∈ zq_ws := zq_in (zq_t7 (List.mem_of_getElem? (i := 59) rfl)) rfl
theorem mv_X12_249 : zq_MV RX12 249 12 yX12_readTerm 1 := ⟨zq_in (zq_t7 (List.mem_of_getElem? (i := 56) rfl)) rfl, zq_in (zq_t7 (List.mem_of_getElem? (i := 58) rfl)) rfl, ⟨_, rfl, zq_in (zq_ts (List.mem_of_getElem? (i := 84) rfl)) rfl⟩, mi_X12_readTerm⟩
theorem mi_X12_readPart : zq_MI yX12_readPart 1 := ⟨zq_in (zq_t1 (List.mem_of_getElem? (i := 10) rfl)) rfl, ⟨by decide, by decide⟩, by decide +kernel⟩
theorem cw_X12_readPart : Cond.code yX12_readPart cX12_readPart 3 none ∈ zq_ws := zq_in (zq_t7 (List.mem_of_getElem? (i := 63) rfl)) rfl
theorem mv_X12_252 : zq_MV RX12 252 12 yX12_readPart 1 := ⟨zq_in (zq_t7 (List.mem_of_getElem? (i := 60) rfl)) rfl, zq_in (zq_t7 (List.mem_of_getElem? (i := 62) rfl)) rfl, ⟨_, rfl, zq_in (zq_ts (List.mem_of_getElem? (i := 85) rfl)) rfl⟩, mi_X12_readPart⟩
theorem fl_X12_255 : zq_FL RX12 255 12 9 := ⟨_, _, _, rfl, by decide, zq_in (zq_t5 (List.mem_of_getElem? (i := 128) rfl)) rfl⟩
theorem pl_X12_255 (nm : String) : zq_PL RX12 nm 255 12 9 := ⟨_, _, _, rfl, by decide, zq_in (zq_t5 (List.mem_of_getElem? (i := 128) rfl)) rfl, Or.inl rfl⟩
theorem fl_X12_258 : zq_FL RX12 258 12 10 := ⟨_, _, _, rfl, by decide, zq_in (zq_t5 (List.mem_of_getElem? (i := 129) rfl)) rfl⟩
theorem pl_X12_258 (nm : String) : zq_PL RX12 nm 258 12 10 := ⟨_, _, _, rfl, by decide, zq_in (zq_t5 (List.mem_of_getElem? (i := 129) rfl)) rfl, Or.inl rfl⟩
theorem mi_X12_leaf : zq_MI yX12_leaf 0 := ⟨zq_in (zq_t1 (List.mem_of_getElem? (i := 10) rfl)) rfl, ⟨by decide, by decide⟩, by decide +kernel⟩
theorem cw_X12_leaf : Cond.code yX12_leaf cX12_leaf 1 none ∈ zq_ws := zq_in (zq_t7 (List.mem_of_getElem? (i := 75) rfl)) rfl
theorem mv_X12_261 : zq_MV RX12 261 12 yX12_leaf 0 := ⟨zq_in (zq_t7 (List.mem_of_getElem? (i := 72) rfl)) rfl, zq_in (zq_t7 (List.mem_of_getElem? (i := 74) rfl)) rfl, ⟨_, rfl, zq_in (zq_ts (List.mem_of_getElem? (i := 88) rfl)) rfl⟩, mi_X12_leaf⟩
theorem mi_X12_splits : zq_MI yX12_splits 1 := ⟨zq_in (zq_t1 (List.mem_of_getElem? (i := 10) rfl)) rfl, ⟨by decide, by decide⟩, by decide +kernel⟩
theorem cw_X12_splits : Cond.code yX12_splits cX12_splits 6 none ∈ zq_ws := zq_in (zq_t7 (List.mem_of_getElem? (i := 24) rfl)) rfl
theorem mv_X12_264 : zq_MV RX12 264 12 yX12_splits 1 := ⟨zq_in (zq_t7 (List.mem_of_getElem? (i := 21) rfl)) rfl, zq_in (zq_t7 (List.mem_of_getElem? (i := 23) rfl)) rfl, ⟨_, rfl, zq_in (zq_ts (List.mem_of_getElem? (i := 77) rfl)) rfl⟩, mi_X12_splits⟩
theorem mi_X12_readOne : zq_MI yX12_readOne 0 := ⟨zq_in (zq_t1 (List.mem_of_getElem? (i := 10) rfl)) rfl, ⟨by decide, by decide⟩, by decide +kernel⟩
theorem cw_X12_readOne : Cond.code yX12_readOne cX12_readOne 1 none ∈ zq_ws := zq_in (zq_t7 (List.mem_of_getElem? (i := 39) rfl)) rfl
theorem mv_X12_267 : zq_MV RX12 267 12 yX12_readOne 0 := ⟨zq_in (zq_t7 (List.mem_of_getElem? (i := 36) rfl)) rfl, zq_in (zq_t7 (List.mem_of_getElem? (i := 38) rfl)) rfl, ⟨_, rfl, zq_in (zq_ts (List.mem_of_getElem? (i := 79) rfl)) rfl⟩, mi_X12_readOne⟩
theorem mi_X12_reads : zq_MI yX12_reads 0 := ⟨zq_in (zq_t1 (List.mem_of_getElem? (i := 10) rfl)) rfl, ⟨by decide, by decide⟩, by decide +kernel⟩
theorem cw_X12_reads : Cond.code yX12_reads cX12_reads 2 (some .boolean) ∈ zq_ws := zq_in (zq_t7 (List.mem_of_getElem? (i := 20) rfl)) rfl
theorem mv_X12_270 : zq_MV RX12 270 12 yX12_reads 0 := ⟨zq_in (zq_t7 (List.mem_of_getElem? (i := 17) rfl)) rfl, zq_in (zq_t7 (List.mem_of_getElem? (i := 19) rfl)) rfl, ⟨_, rfl, zq_in (zq_ts (List.mem_of_getElem? (i := 76) rfl)) rfl⟩, mi_X12_reads⟩
theorem mi_X12_readsAs : zq_MI yX12_readsAs 1 := ⟨zq_in (zq_t1 (List.mem_of_getElem? (i := 10) rfl)) rfl, ⟨by decide, by decide⟩, by decide +kernel⟩
theorem cw_X12_readsAs : Cond.code yX12_readsAs cX12_readsAs 2 (some .boolean) ∈ zq_ws := zq_in (zq_t7 (List.mem_of_getElem? (i := 16) rfl)) rfl
theorem mv_X12_273 : zq_MV RX12 273 12 yX12_readsAs 1 := ⟨zq_in (zq_t7 (List.mem_of_getElem? (i := 13) rfl)) rfl, zq_in (zq_t7 (List.mem_of_getElem? (i := 15) rfl)) rfl, ⟨_, rfl, zq_in (zq_ts (List.mem_of_getElem? (i := 75) rfl)) rfl⟩, mi_X12_readsAs⟩
theorem mi_X12_lays : zq_MI yX12_lays 1 := ⟨zq_in (zq_t1 (List.mem_of_getElem? (i := 10) rfl)) rfl, ⟨by decide, by decide⟩, by decide +kernel⟩
theorem cw_X12_lays : Cond.code yX12_lays cX12_lays 3 none ∈ zq_ws := zq_in (zq_t7 (List.mem_of_getElem? (i := 99) rfl)) rfl
theorem mv_X12_277 : zq_MV RX12 277 12 yX12_lays 1 := ⟨zq_in (zq_t7 (List.mem_of_getElem? (i := 96) rfl)) rfl, zq_in (zq_t7 (List.mem_of_getElem? (i := 98) rfl)) rfl, ⟨_, rfl, zq_in (zq_ts (List.mem_of_getElem? (i := 94) rfl)) rfl⟩, mi_X12_lays⟩
theorem mi_X12_isLaw : zq_MI yX12_isLaw 1 := ⟨zq_in (zq_t1 (List.mem_of_getElem? (i := 10) rfl)) rfl, ⟨by decide, by decide⟩, by decide +kernel⟩
theorem cw_X12_isLaw : Cond.code yX12_isLaw cX12_isLaw 2 (some .boolean) ∈ zq_ws := zq_in (zq_t7 (List.mem_of_getElem? (i := 111) rfl)) rfl
theorem mv_X12_280 : zq_MV RX12 280 12 yX12_isLaw 1 := ⟨zq_in (zq_t7 (List.mem_of_getElem? (i := 108) rfl)) rfl, zq_in (zq_t7 (List.mem_of_getElem? (i := 110) rfl)) rfl, ⟨_, rfl, zq_in (zq_ts (List.mem_of_getElem? (i := 95) rfl)) rfl⟩, mi_X12_isLaw⟩
theorem fl_X12_283 : zq_FL RX12 283 12 24 := ⟨_, _, _, rfl, by decide, zq_in (zq_t5 (List.mem_of_getElem? (i := 143) rfl)) rfl⟩
theorem pl_X12_283 (nm : String) : zq_PL RX12 nm 283 12 24 := ⟨_, _, _, rfl, by decide, zq_in (zq_t5 (List.mem_of_getElem? (i := 143) rfl)) rfl, Or.inl rfl⟩
theorem fl_X12_286 : zq_FL RX12 286 12 23 := ⟨_, _, _, rfl, by decide, zq_in (zq_t5 (List.mem_of_getElem? (i := 142) rfl)) rfl⟩
theorem pl_X12_286 (nm : String) : zq_PL RX12 nm 286 12 23 := ⟨_, _, _, rfl, by decide, zq_in (zq_t5 (List.mem_of_getElem? (i := 142) rfl)) rfl, Or.inl rfl⟩
theorem mi_X12_codeAt : zq_MI yX12_codeAt 1 := ⟨zq_in (zq_t1 (List.mem_of_getElem? (i := 10) rfl)) rfl, ⟨by decide, by decide⟩, by decide +kernel⟩
theorem cw_X12_codeAt : Cond.code yX12_codeAt cX12_codeAt 2 (some .int) ∈ zq_ws := zq_in (zq_t6 (List.mem_of_getElem? (i := 123) rfl)) rfl
theorem mv_X12_289 : zq_MV RX12 289 12 yX12_codeAt 1 := ⟨zq_in (zq_t6 (List.mem_of_getElem? (i := 120) rfl)) rfl, zq_in (zq_t6 (List.mem_of_getElem? (i := 122) rfl)) rfl, ⟨_, rfl, zq_in (zq_ts (List.mem_of_getElem? (i := 58) rfl)) rfl⟩, mi_X12_codeAt⟩
theorem kl_X12_292 : Cond.constantLong RX12 292 (1000000000) ∈ zq_ws := zq_in (zq_t6 (List.mem_of_getElem? (i := 179) rfl)) rfl
theorem kl_X12_294 : Cond.constantLong RX12 294 (-1000000000) ∈ zq_ws := zq_in (zq_t6 (List.mem_of_getElem? (i := 180) rfl)) rfl
theorem fl_X12_296 : zq_FL RX12 296 12 25 := ⟨_, _, _, rfl, by decide, zq_in (zq_t5 (List.mem_of_getElem? (i := 144) rfl)) rfl⟩
theorem pl_X12_296 (nm : String) : zq_PL RX12 nm 296 12 25 := ⟨_, _, _, rfl, by decide, zq_in (zq_t5 (List.mem_of_getElem? (i := 144) rfl)) rfl, Or.inl rfl⟩
theorem mi_X12_termOf : zq_MI yX12_termOf 1 := ⟨zq_in (zq_t1 (List.mem_of_getElem? (i := 10) rfl)) rfl, ⟨by decide, by decide⟩, by decide +kernel⟩
theorem cw_X12_termOf : Cond.code yX12_termOf cX12_termOf 7 (some .long) ∈ zq_ws := zq_in (zq_t6 (List.mem_of_getElem? (i := 131) rfl)) rfl
theorem mv_X12_299 : zq_MV RX12 299 12 yX12_termOf 1 := ⟨zq_in (zq_t6 (List.mem_of_getElem? (i := 128) rfl)) rfl, zq_in (zq_t6 (List.mem_of_getElem? (i := 130) rfl)) rfl, ⟨_, rfl, zq_in (zq_ts (List.mem_of_getElem? (i := 60) rfl)) rfl⟩, mi_X12_termOf⟩
theorem mi_X12_bounded : zq_MI yX12_bounded 2 := ⟨zq_in (zq_t1 (List.mem_of_getElem? (i := 10) rfl)) rfl, ⟨by decide, by decide⟩, by decide +kernel⟩
theorem cw_X12_bounded : Cond.code yX12_bounded cX12_bounded 4 (some .long) ∈ zq_ws := zq_in (zq_t6 (List.mem_of_getElem? (i := 178) rfl)) rfl
theorem mv_X12_303 : zq_MV RX12 303 12 yX12_bounded 2 := ⟨zq_in (zq_t6 (List.mem_of_getElem? (i := 175) rfl)) rfl, zq_in (zq_t6 (List.mem_of_getElem? (i := 177) rfl)) rfl, ⟨_, rfl, zq_in (zq_ts (List.mem_of_getElem? (i := 67) rfl)) rfl⟩, mi_X12_bounded⟩
theorem mi_X12_partOf : zq_MI yX12_partOf 1 := ⟨zq_in (zq_t1 (List.mem_of_getElem? (i := 10) rfl)) rfl, ⟨by decide, by decide⟩, by decide +kernel⟩
theorem cw_X12_partOf : Cond.code yX12_partOf cX12_partOf 4 (some .long) ∈ zq_ws := zq_in (zq_t6 (List.mem_of_getElem? (i := 135) rfl)) rfl
theorem mv_X12_307 : zq_MV RX12 307 12 yX12_partOf 1 := ⟨zq_in (zq_t6 (List.mem_of_getElem? (i := 132) rfl)) rfl, zq_in (zq_t6 (List.mem_of_getElem? (i := 134) rfl)) rfl, ⟨_, rfl, zq_in (zq_ts (List.mem_of_getElem? (i := 61) rfl)) rfl⟩, mi_X12_partOf⟩
theorem mi_X12_passes0 : zq_MI yX12_passes0 1 := ⟨zq_in (zq_t1 (List.mem_of_getElem? (i := 10) rfl)) rfl, ⟨by decide, by decide⟩, by decide +kernel⟩
theorem cw_X12_passes0 : Cond.code yX12_passes0 cX12_passes0 3 (some .boolean) ∈ zq_ws := zq_in (zq_t6 (List.mem_of_getElem? (i := 142) rfl)) rfl
theorem mv_X12_310 : zq_MV RX12 310 12 yX12_passes0 1 := ⟨zq_in (zq_t6 (List.mem_of_getElem? (i := 139) rfl)) rfl, zq_in (zq_t6 (List.mem_of_getElem? (i := 141) rfl)) rfl, ⟨_, rfl, zq_in (zq_ts (List.mem_of_getElem? (i := 62) rfl)) rfl⟩, mi_X12_passes0⟩
theorem mi_X12_sumOf : zq_MI yX12_sumOf 1 := ⟨zq_in (zq_t1 (List.mem_of_getElem? (i := 10) rfl)) rfl, ⟨by decide, by decide⟩, by decide +kernel⟩
theorem cw_X12_sumOf : Cond.code yX12_sumOf cX12_sumOf 7 (some .long) ∈ zq_ws := zq_in (zq_t6 (List.mem_of_getElem? (i := 127) rfl)) rfl
theorem mv_X12_313 : zq_MV RX12 313 12 yX12_sumOf 1 := ⟨zq_in (zq_t6 (List.mem_of_getElem? (i := 124) rfl)) rfl, zq_in (zq_t6 (List.mem_of_getElem? (i := 126) rfl)) rfl, ⟨_, rfl, zq_in (zq_ts (List.mem_of_getElem? (i := 59) rfl)) rfl⟩, mi_X12_sumOf⟩
theorem fl_X12_316 : zq_FL RX12 316 12 26 := ⟨_, _, _, rfl, by decide, zq_in (zq_t5 (List.mem_of_getElem? (i := 145) rfl)) rfl⟩
theorem pl_X12_316 (nm : String) : zq_PL RX12 nm 316 12 26 := ⟨_, _, _, rfl, by decide, zq_in (zq_t5 (List.mem_of_getElem? (i := 145) rfl)) rfl, Or.inl rfl⟩
theorem mi_X12_orderValue : zq_MI yX12_orderValue 2 := ⟨zq_in (zq_t1 (List.mem_of_getElem? (i := 10) rfl)) rfl, ⟨by decide, by decide⟩, by decide +kernel⟩
theorem cw_X12_orderValue : Cond.code yX12_orderValue cX12_orderValue 3 (some .int) ∈ zq_ws := zq_in (zq_t6 (List.mem_of_getElem? (i := 146) rfl)) rfl
theorem mv_X12_319 : zq_MV RX12 319 12 yX12_orderValue 2 := ⟨zq_in (zq_t6 (List.mem_of_getElem? (i := 143) rfl)) rfl, zq_in (zq_t6 (List.mem_of_getElem? (i := 145) rfl)) rfl, ⟨_, rfl, zq_in (zq_ts (List.mem_of_getElem? (i := 63) rfl)) rfl⟩, mi_X12_orderValue⟩
theorem mi_X12_at : zq_MI yX12_at 1 := ⟨zq_in (zq_t1 (List.mem_of_getElem? (i := 10) rfl)) rfl, ⟨by decide, by decide⟩, by decide +kernel⟩
theorem cw_X12_at : Cond.code yX12_at cX12_at 2 (some .int) ∈ zq_ws := zq_in (zq_t6 (List.mem_of_getElem? (i := 150) rfl)) rfl
theorem mv_X12_322 : zq_MV RX12 322 12 yX12_at 1 := ⟨zq_in (zq_t6 (List.mem_of_getElem? (i := 147) rfl)) rfl, zq_in (zq_t6 (List.mem_of_getElem? (i := 148) rfl)) rfl, ⟨_, rfl, zq_in (zq_t6 (List.mem_of_getElem? (i := 149) rfl)) rfl⟩, mi_X12_at⟩
theorem mi_X12_of : zq_MI yX12_of 2 := ⟨zq_in (zq_t1 (List.mem_of_getElem? (i := 10) rfl)) rfl, ⟨by decide, by decide⟩, by decide +kernel⟩
theorem cw_X12_of : Cond.code yX12_of cX12_of 3 (some .int) ∈ zq_ws := zq_in (zq_t6 (List.mem_of_getElem? (i := 99) rfl)) rfl
theorem mv_X12_325 : zq_MV RX12 325 12 yX12_of 2 := ⟨zq_in (zq_t6 (List.mem_of_getElem? (i := 151) rfl)) rfl, zq_in (zq_t6 (List.mem_of_getElem? (i := 97) rfl)) rfl, ⟨_, rfl, zq_in (zq_t6 (List.mem_of_getElem? (i := 98) rfl)) rfl⟩, mi_X12_of⟩
theorem fl_X12_328 : zq_FL RX12 328 12 28 := ⟨_, _, _, rfl, by decide, zq_in (zq_t5 (List.mem_of_getElem? (i := 147) rfl)) rfl⟩
theorem pl_X12_328 (nm : String) : zq_PL RX12 nm 328 12 28 := ⟨_, _, _, rfl, by decide, zq_in (zq_t5 (List.mem_of_getElem? (i := 147) rfl)) rfl, Or.inl rfl⟩
theorem fl_X12_331 : zq_FL RX12 331 12 29 := ⟨_, _, _, rfl, by decide, zq_in (zq_t5 (List.mem_of_getElem? (i := 148) rfl)) rfl⟩
theorem pl_X12_331 (nm : String) : zq_PL RX12 nm 331 12 29 := ⟨_, _, _, rfl, by decide, zq_in (zq_t5 (List.mem_of_getElem? (i := 148) rfl)) rfl, Or.inl rfl⟩
theorem mi_X12_breaks : zq_MI yX12_breaks 1 := ⟨zq_in (zq_t1 (List.mem_of_getElem? (i := 10) rfl)) rfl, ⟨by decide, by decide⟩, by decide +kernel⟩
theorem cw_X12_breaks : Cond.code yX12_breaks cX12_breaks 4 (some .int) ∈ zq_ws := zq_in (zq_t6 (List.mem_of_getElem? (i := 155) rfl)) rfl
theorem mv_X12_334 : zq_MV RX12 334 12 yX12_breaks 1 := ⟨zq_in (zq_t6 (List.mem_of_getElem? (i := 152) rfl)) rfl, zq_in (zq_t6 (List.mem_of_getElem? (i := 153) rfl)) rfl, ⟨_, rfl, zq_in (zq_t6 (List.mem_of_getElem? (i := 154) rfl)) rfl⟩, mi_X12_breaks⟩
theorem mi_X12_swaps : zq_MI yX12_swaps 0 := ⟨zq_in (zq_t1 (List.mem_of_getElem? (i := 10) rfl)) rfl, ⟨by decide, by decide⟩, by decide +kernel⟩
theorem cw_X12_swaps : Cond.code yX12_swaps cX12_swaps 4 (some .int) ∈ zq_ws := zq_in (zq_t6 (List.mem_of_getElem? (i := 174) rfl)) rfl
theorem mv_X12_337 : zq_MV RX12 337 12 yX12_swaps 0 := ⟨zq_in (zq_t6 (List.mem_of_getElem? (i := 171) rfl)) rfl, zq_in (zq_t6 (List.mem_of_getElem? (i := 172) rfl)) rfl, ⟨_, rfl, zq_in (zq_t6 (List.mem_of_getElem? (i := 173) rfl)) rfl⟩, mi_X12_swaps⟩
theorem mi_X12_bothOf : zq_MI yX12_bothOf 1 := ⟨zq_in (zq_t1 (List.mem_of_getElem? (i := 10) rfl)) rfl, ⟨by decide, by decide⟩, by decide +kernel⟩
theorem cw_X12_bothOf : Cond.code yX12_bothOf cX12_bothOf 4 (some .boolean) ∈ zq_ws := zq_in (zq_t6 (List.mem_of_getElem? (i := 188) rfl)) rfl
theorem mv_X12_340 : zq_MV RX12 340 12 yX12_bothOf 1 := ⟨zq_in (zq_t6 (List.mem_of_getElem? (i := 185) rfl)) rfl, zq_in (zq_t6 (List.mem_of_getElem? (i := 187) rfl)) rfl, ⟨_, rfl, zq_in (zq_ts (List.mem_of_getElem? (i := 69) rfl)) rfl⟩, mi_X12_bothOf⟩
theorem mi_X12_plainOf : zq_MI yX12_plainOf 1 := ⟨zq_in (zq_t1 (List.mem_of_getElem? (i := 10) rfl)) rfl, ⟨by decide, by decide⟩, by decide +kernel⟩
theorem cw_X12_plainOf : Cond.code yX12_plainOf cX12_plainOf 3 (some .boolean) ∈ zq_ws := zq_in (zq_t6 (List.mem_of_getElem? (i := 192) rfl)) rfl
theorem mv_X12_343 : zq_MV RX12 343 12 yX12_plainOf 1 := ⟨zq_in (zq_t6 (List.mem_of_getElem? (i := 189) rfl)) rfl, zq_in (zq_t6 (List.mem_of_getElem? (i := 191) rfl)) rfl, ⟨_, rfl, zq_in (zq_ts (List.mem_of_getElem? (i := 70) rfl)) rfl⟩, mi_X12_plainOf⟩
theorem mi_X12_positiveOf : zq_MI yX12_positiveOf 1 := ⟨zq_in (zq_t1 (List.mem_of_getElem? (i := 10) rfl)) rfl, ⟨by decide, by decide⟩, by decide +kernel⟩
theorem cw_X12_positiveOf : Cond.code yX12_positiveOf cX12_positiveOf 7 (some .boolean) ∈ zq_ws := zq_in (zq_t6 (List.mem_of_getElem? (i := 196) rfl)) rfl
theorem mv_X12_346 : zq_MV RX12 346 12 yX12_positiveOf 1 := ⟨zq_in (zq_t6 (List.mem_of_getElem? (i := 193) rfl)) rfl, zq_in (zq_t6 (List.mem_of_getElem? (i := 195) rfl)) rfl, ⟨_, rfl, zq_in (zq_ts (List.mem_of_getElem? (i := 71) rfl)) rfl⟩, mi_X12_positiveOf⟩
theorem mi_X12_testOf : zq_MI yX12_testOf 1 := ⟨zq_in (zq_t1 (List.mem_of_getElem? (i := 10) rfl)) rfl, ⟨by decide, by decide⟩, by decide +kernel⟩
theorem cw_X12_testOf : Cond.code yX12_testOf cX12_testOf 4 (some .boolean) ∈ zq_ws := zq_in (zq_t6 (List.mem_of_getElem? (i := 184) rfl)) rfl
theorem mv_X12_349 : zq_MV RX12 349 12 yX12_testOf 1 := ⟨zq_in (zq_t6 (List.mem_of_getElem? (i := 181) rfl)) rfl, zq_in (zq_t6 (List.mem_of_getElem? (i := 183) rfl)) rfl, ⟨_, rfl, zq_in (zq_ts (List.mem_of_getElem? (i := 68) rfl)) rfl⟩, mi_X12_testOf⟩
theorem mi_X12_setsAsked : zq_MI yX12_setsAsked 3 := ⟨zq_in (zq_t1 (List.mem_of_getElem? (i := 10) rfl)) rfl, ⟨by decide, by decide⟩, by decide +kernel⟩
theorem cw_X12_setsAsked : Cond.code yX12_setsAsked cX12_setsAsked 4 none ∈ zq_ws := zq_in (zq_t6 (List.mem_of_getElem? (i := 119) rfl)) rfl
theorem mv_X12_352 : zq_MV RX12 352 12 yX12_setsAsked 3 := ⟨zq_in (zq_t6 (List.mem_of_getElem? (i := 116) rfl)) rfl, zq_in (zq_t6 (List.mem_of_getElem? (i := 118) rfl)) rfl, ⟨_, rfl, zq_in (zq_ts (List.mem_of_getElem? (i := 57) rfl)) rfl⟩, mi_X12_setsAsked⟩
theorem kl_X12_356 : Cond.constantLong RX12 356 (99) ∈ zq_ws := zq_in (zq_t6 (List.mem_of_getElem? (i := 197) rfl)) rfl
theorem mi_X12_tells : zq_MI yX12_tells 5 := ⟨zq_in (zq_t1 (List.mem_of_getElem? (i := 10) rfl)) rfl, ⟨by decide, by decide⟩, by decide +kernel⟩
theorem cw_X12_tells : Cond.code yX12_tells cX12_tells 13 (some .int) ∈ zq_ws := zq_in (zq_t6 (List.mem_of_getElem? (i := 115) rfl)) rfl
theorem mv_X12_358 : zq_MV RX12 358 12 yX12_tells 5 := ⟨zq_in (zq_t6 (List.mem_of_getElem? (i := 112) rfl)) rfl, zq_in (zq_t6 (List.mem_of_getElem? (i := 114) rfl)) rfl, ⟨_, rfl, zq_in (zq_ts (List.mem_of_getElem? (i := 56) rfl)) rfl⟩, mi_X12_tells⟩
theorem mi_X12_lesser : zq_MI yX12_lesser 2 := ⟨zq_in (zq_t1 (List.mem_of_getElem? (i := 10) rfl)) rfl, ⟨by decide, by decide⟩, by decide +kernel⟩
theorem cw_X12_lesser : Cond.code yX12_lesser cX12_lesser 2 (some .int) ∈ zq_ws := zq_in (zq_t6 (List.mem_of_getElem? (i := 170) rfl)) rfl
theorem ms_X12_362 : zq_MS RX12 362 yX12_lesser 2 := ⟨Or.inl (zq_in (zq_t6 (List.mem_of_getElem? (i := 168) rfl)) rfl), zq_in (zq_t6 (List.mem_of_getElem? (i := 169) rfl)) rfl, mi_X12_lesser⟩
theorem mi_X12_compares : zq_MI yX12_compares 2 := ⟨zq_in (zq_t1 (List.mem_of_getElem? (i := 10) rfl)) rfl, ⟨by decide, by decide⟩, by decide +kernel⟩
theorem cw_X12_compares : Cond.code yX12_compares cX12_compares 6 (some .int) ∈ zq_ws := zq_in (zq_t6 (List.mem_of_getElem? (i := 167) rfl)) rfl
theorem mv_X12_365 : zq_MV RX12 365 12 yX12_compares 2 := ⟨zq_in (zq_t6 (List.mem_of_getElem? (i := 164) rfl)) rfl, zq_in (zq_t6 (List.mem_of_getElem? (i := 166) rfl)) rfl, ⟨_, rfl, zq_in (zq_ts (List.mem_of_getElem? (i := 66) rfl)) rfl⟩, mi_X12_compares⟩
theorem mi_X12_comparesTwo : zq_MI yX12_comparesTwo 2 := ⟨zq_in (zq_t1 (List.mem_of_getElem? (i := 10) rfl)) rfl, ⟨by decide, by decide⟩, by decide +kernel⟩
theorem cw_X12_comparesTwo : Cond.code yX12_comparesTwo cX12_comparesTwo 3 (some .int) ∈ zq_ws := zq_in (zq_t7 (List.mem_of_getElem? (i := 119) rfl)) rfl
theorem mv_X12_368 : zq_MV RX12 368 12 yX12_comparesTwo 2 := ⟨zq_in (zq_t7 (List.mem_of_getElem? (i := 116) rfl)) rfl, zq_in (zq_t7 (List.mem_of_getElem? (i := 118) rfl)) rfl, ⟨_, rfl, zq_in (zq_ts (List.mem_of_getElem? (i := 96) rfl)) rfl⟩, mi_X12_comparesTwo⟩
theorem mi_X12_nameAt : zq_MI yX12_nameAt 1 := ⟨zq_in (zq_t1 (List.mem_of_getElem? (i := 10) rfl)) rfl, ⟨by decide, by decide⟩, by decide +kernel⟩
theorem cw_X12_nameAt : Cond.code yX12_nameAt cX12_nameAt 2 (some .int) ∈ zq_ws := zq_in (zq_t6 (List.mem_of_getElem? (i := 163) rfl)) rfl
theorem mv_X12_371 : zq_MV RX12 371 12 yX12_nameAt 1 := ⟨zq_in (zq_t6 (List.mem_of_getElem? (i := 160) rfl)) rfl, zq_in (zq_t6 (List.mem_of_getElem? (i := 162) rfl)) rfl, ⟨_, rfl, zq_in (zq_ts (List.mem_of_getElem? (i := 65) rfl)) rfl⟩, mi_X12_nameAt⟩
theorem mi_X12_breaksAt : zq_MI yX12_breaksAt 1 := ⟨zq_in (zq_t1 (List.mem_of_getElem? (i := 10) rfl)) rfl, ⟨by decide, by decide⟩, by decide +kernel⟩
theorem cw_X12_breaksAt : Cond.code yX12_breaksAt cX12_breaksAt 2 (some .boolean) ∈ zq_ws := zq_in (zq_t6 (List.mem_of_getElem? (i := 159) rfl)) rfl
theorem mv_X12_374 : zq_MV RX12 374 12 yX12_breaksAt 1 := ⟨zq_in (zq_t6 (List.mem_of_getElem? (i := 156) rfl)) rfl, zq_in (zq_t6 (List.mem_of_getElem? (i := 158) rfl)) rfl, ⟨_, rfl, zq_in (zq_ts (List.mem_of_getElem? (i := 64) rfl)) rfl⟩, mi_X12_breaksAt⟩
theorem mi_X12_isIn : zq_MI yX12_isIn 2 := ⟨zq_in (zq_t1 (List.mem_of_getElem? (i := 10) rfl)) rfl, ⟨by decide, by decide⟩, by decide +kernel⟩
theorem cw_X12_isIn : Cond.code yX12_isIn cX12_isIn 2 (some .boolean) ∈ zq_ws := zq_in (zq_t7 (List.mem_of_getElem? (i := 135) rfl)) rfl
theorem ms_X12_377 : zq_MS RX12 377 yX12_isIn 2 := ⟨Or.inl (zq_in (zq_t7 (List.mem_of_getElem? (i := 133) rfl)) rfl), zq_in (zq_t7 (List.mem_of_getElem? (i := 134) rfl)) rfl, mi_X12_isIn⟩
theorem mi_X12_ones : zq_MI yX12_ones 1 := ⟨zq_in (zq_t1 (List.mem_of_getElem? (i := 10) rfl)) rfl, ⟨by decide, by decide⟩, by decide +kernel⟩
theorem cw_X12_ones : Cond.code yX12_ones cX12_ones 3 (some .int) ∈ zq_ws := zq_in (zq_t7 (List.mem_of_getElem? (i := 128) rfl)) rfl
theorem ms_X12_380 : zq_MS RX12 380 yX12_ones 1 := ⟨Or.inl (zq_in (zq_t7 (List.mem_of_getElem? (i := 126) rfl)) rfl), zq_in (zq_t7 (List.mem_of_getElem? (i := 127) rfl)) rfl, mi_X12_ones⟩
theorem mi_X12_isRightWithout : zq_MI yX12_isRightWithout 1 := ⟨zq_in (zq_t1 (List.mem_of_getElem? (i := 10) rfl)) rfl, ⟨by decide, by decide⟩, by decide +kernel⟩
theorem cw_X12_isRightWithout : Cond.code yX12_isRightWithout cX12_isRightWithout 4 (some .boolean) ∈ zq_ws := zq_in (zq_t7 (List.mem_of_getElem? (i := 132) rfl)) rfl
theorem mv_X12_383 : zq_MV RX12 383 12 yX12_isRightWithout 1 := ⟨zq_in (zq_t7 (List.mem_of_getElem? (i := 129) rfl)) rfl, zq_in (zq_t7 (List.mem_of_getElem? (i := 131) rfl)) rfl, ⟨_, rfl, zq_in (zq_ts (List.mem_of_getElem? (i := 97) rfl)) rfl⟩, mi_X12_isRightWithout⟩
theorem mi_X12_laysAlphabet : zq_MI yX12_laysAlphabet 1 := ⟨zq_in (zq_t1 (List.mem_of_getElem? (i := 10) rfl)) rfl, ⟨by decide, by decide⟩, by decide +kernel⟩
theorem cw_X12_laysAlphabet : Cond.code yX12_laysAlphabet cX12_laysAlphabet 8 none ∈ zq_ws := zq_in (zq_t7 (List.mem_of_getElem? (i := 143) rfl)) rfl
theorem mv_X12_386 : zq_MV RX12 386 12 yX12_laysAlphabet 1 := ⟨zq_in (zq_t7 (List.mem_of_getElem? (i := 140) rfl)) rfl, zq_in (zq_t7 (List.mem_of_getElem? (i := 142) rfl)) rfl, ⟨_, rfl, zq_in (zq_ts (List.mem_of_getElem? (i := 98) rfl)) rfl⟩, mi_X12_laysAlphabet⟩
theorem mi_X12_isRight : zq_MI yX12_isRight 0 := ⟨zq_in (zq_t1 (List.mem_of_getElem? (i := 10) rfl)) rfl, ⟨by decide, by decide⟩, by decide +kernel⟩
theorem cw_X12_isRight : Cond.code yX12_isRight cX12_isRight 1 (some .boolean) ∈ zq_ws := zq_in (zq_t7 (List.mem_of_getElem? (i := 147) rfl)) rfl
theorem mv_X12_389 : zq_MV RX12 389 12 yX12_isRight 0 := ⟨zq_in (zq_t7 (List.mem_of_getElem? (i := 144) rfl)) rfl, zq_in (zq_t7 (List.mem_of_getElem? (i := 146) rfl)) rfl, ⟨_, rfl, zq_in (zq_ts (List.mem_of_getElem? (i := 99) rfl)) rfl⟩, mi_X12_isRight⟩
theorem mi_X12_laidAlphabet : zq_MI yX12_laidAlphabet 0 := ⟨zq_in (zq_t1 (List.mem_of_getElem? (i := 10) rfl)) rfl, ⟨by decide, by decide⟩, by decide +kernel⟩
theorem cw_X12_laidAlphabet : Cond.code yX12_laidAlphabet cX12_laidAlphabet 3 (some .int) ∈ zq_ws := zq_in (zq_t7 (List.mem_of_getElem? (i := 151) rfl)) rfl
theorem mv_X12_392 : zq_MV RX12 392 12 yX12_laidAlphabet 0 := ⟨zq_in (zq_t7 (List.mem_of_getElem? (i := 148) rfl)) rfl, zq_in (zq_t7 (List.mem_of_getElem? (i := 150) rfl)) rfl, ⟨_, rfl, zq_in (zq_ts (List.mem_of_getElem? (i := 100) rfl)) rfl⟩, mi_X12_laidAlphabet⟩
theorem mi_X12_isAllSo : zq_MI yX12_isAllSo 0 := ⟨zq_in (zq_t1 (List.mem_of_getElem? (i := 10) rfl)) rfl, ⟨by decide, by decide⟩, by decide +kernel⟩
theorem cw_X12_isAllSo : Cond.code yX12_isAllSo cX12_isAllSo 3 (some .boolean) ∈ zq_ws := zq_in (zq_t7 (List.mem_of_getElem? (i := 167) rfl)) rfl
theorem mv_X12_395 : zq_MV RX12 395 12 yX12_isAllSo 0 := ⟨zq_in (zq_t7 (List.mem_of_getElem? (i := 164) rfl)) rfl, zq_in (zq_t7 (List.mem_of_getElem? (i := 166) rfl)) rfl, ⟨_, rfl, zq_in (zq_ts (List.mem_of_getElem? (i := 101) rfl)) rfl⟩, mi_X12_isAllSo⟩
theorem mi_X12_laysAheadBy : zq_MI yX12_laysAheadBy 0 := ⟨zq_in (zq_t1 (List.mem_of_getElem? (i := 10) rfl)) rfl, ⟨by decide, by decide⟩, by decide +kernel⟩
theorem cw_X12_laysAheadBy : Cond.code yX12_laysAheadBy cX12_laysAheadBy 5 (some .int) ∈ zq_ws := zq_in (zq_t7 (List.mem_of_getElem? (i := 175) rfl)) rfl
theorem mv_X12_398 : zq_MV RX12 398 12 yX12_laysAheadBy 0 := ⟨zq_in (zq_t7 (List.mem_of_getElem? (i := 172) rfl)) rfl, zq_in (zq_t7 (List.mem_of_getElem? (i := 174) rfl)) rfl, ⟨_, rfl, zq_in (zq_ts (List.mem_of_getElem? (i := 102) rfl)) rfl⟩, mi_X12_laysAheadBy⟩
theorem mi_X12_greater : zq_MI yX12_greater 2 := ⟨zq_in (zq_t1 (List.mem_of_getElem? (i := 10) rfl)) rfl, ⟨by decide, by decide⟩, by decide +kernel⟩
theorem cw_X12_greater : Cond.code yX12_greater cX12_greater 2 (some .int) ∈ zq_ws := zq_in (zq_t7 (List.mem_of_getElem? (i := 178) rfl)) rfl
theorem ms_X12_401 : zq_MS RX12 401 yX12_greater 2 := ⟨Or.inl (zq_in (zq_t7 (List.mem_of_getElem? (i := 176) rfl)) rfl), zq_in (zq_t7 (List.mem_of_getElem? (i := 177) rfl)) rfl, mi_X12_greater⟩
theorem fl_X12_404 : zq_FL RX12 404 12 35 := ⟨_, _, _, rfl, by decide, zq_in (zq_t5 (List.mem_of_getElem? (i := 154) rfl)) rfl⟩
theorem pl_X12_404 (nm : String) : zq_PL RX12 nm 404 12 35 := ⟨_, _, _, rfl, by decide, zq_in (zq_t5 (List.mem_of_getElem? (i := 154) rfl)) rfl, Or.inl rfl⟩
theorem mi_X12_laysNames : zq_MI yX12_laysNames 2 := ⟨zq_in (zq_t1 (List.mem_of_getElem? (i := 10) rfl)) rfl, ⟨by decide, by decide⟩, by decide +kernel⟩
theorem cw_X12_laysNames : Cond.code yX12_laysNames cX12_laysNames 4 none ∈ zq_ws := zq_in (zq_t7 (List.mem_of_getElem? (i := 190) rfl)) rfl
theorem mv_X12_407 : zq_MV RX12 407 12 yX12_laysNames 2 := ⟨zq_in (zq_t7 (List.mem_of_getElem? (i := 187) rfl)) rfl, zq_in (zq_t7 (List.mem_of_getElem? (i := 189) rfl)) rfl, ⟨_, rfl, zq_in (zq_ts (List.mem_of_getElem? (i := 104) rfl)) rfl⟩, mi_X12_laysNames⟩
theorem mi_X12_laysLetterCosts : zq_MI yX12_laysLetterCosts 1 := ⟨zq_in (zq_t1 (List.mem_of_getElem? (i := 10) rfl)) rfl, ⟨by decide, by decide⟩, by decide +kernel⟩
theorem cw_X12_laysLetterCosts : Cond.code yX12_laysLetterCosts cX12_laysLetterCosts 5 none ∈ zq_ws := zq_in (zq_t7 (List.mem_of_getElem? (i := 198) rfl)) rfl
theorem mv_X12_410 : zq_MV RX12 410 12 yX12_laysLetterCosts 1 := ⟨zq_in (zq_t7 (List.mem_of_getElem? (i := 195) rfl)) rfl, zq_in (zq_t7 (List.mem_of_getElem? (i := 197) rfl)) rfl, ⟨_, rfl, zq_in (zq_ts (List.mem_of_getElem? (i := 106) rfl)) rfl⟩, mi_X12_laysLetterCosts⟩
theorem mi_X12_restOf : zq_MI yX12_restOf 2 := ⟨zq_in (zq_t1 (List.mem_of_getElem? (i := 10) rfl)) rfl, ⟨by decide, by decide⟩, by decide +kernel⟩
theorem cw_X12_restOf : Cond.code yX12_restOf cX12_restOf 3 (some .int) ∈ zq_ws := zq_in (zq_t7 (List.mem_of_getElem? (i := 202) rfl)) rfl
theorem mv_X12_413 : zq_MV RX12 413 12 yX12_restOf 2 := ⟨zq_in (zq_t7 (List.mem_of_getElem? (i := 199) rfl)) rfl, zq_in (zq_t7 (List.mem_of_getElem? (i := 201) rfl)) rfl, ⟨_, rfl, zq_in (zq_ts (List.mem_of_getElem? (i := 107) rfl)) rfl⟩, mi_X12_restOf⟩
theorem mi_X12_laysCosts : zq_MI yX12_laysCosts 1 := ⟨zq_in (zq_t1 (List.mem_of_getElem? (i := 10) rfl)) rfl, ⟨by decide, by decide⟩, by decide +kernel⟩
theorem cw_X12_laysCosts : Cond.code yX12_laysCosts cX12_laysCosts 8 none ∈ zq_ws := zq_in (zq_t7 (List.mem_of_getElem? (i := 194) rfl)) rfl
theorem mv_X12_416 : zq_MV RX12 416 12 yX12_laysCosts 1 := ⟨zq_in (zq_t7 (List.mem_of_getElem? (i := 191) rfl)) rfl, zq_in (zq_t7 (List.mem_of_getElem? (i := 193) rfl)) rfl, ⟨_, rfl, zq_in (zq_ts (List.mem_of_getElem? (i := 105) rfl)) rfl⟩, mi_X12_laysCosts⟩
theorem mi_X12_withName : zq_MI yX12_withName 2 := ⟨zq_in (zq_t1 (List.mem_of_getElem? (i := 10) rfl)) rfl, ⟨by decide, by decide⟩, by decide +kernel⟩
theorem cw_X12_withName : Cond.code yX12_withName cX12_withName 3 (some .int) ∈ zq_ws := zq_in (zq_t7 (List.mem_of_getElem? (i := 206) rfl)) rfl
theorem mv_X12_419 : zq_MV RX12 419 12 yX12_withName 2 := ⟨zq_in (zq_t7 (List.mem_of_getElem? (i := 203) rfl)) rfl, zq_in (zq_t7 (List.mem_of_getElem? (i := 205) rfl)) rfl, ⟨_, rfl, zq_in (zq_ts (List.mem_of_getElem? (i := 108) rfl)) rfl⟩, mi_X12_withName⟩
theorem mi_X12_laysMended : zq_MI yX12_laysMended 0 := ⟨zq_in (zq_t1 (List.mem_of_getElem? (i := 10) rfl)) rfl, ⟨by decide, by decide⟩, by decide +kernel⟩
theorem cw_X12_laysMended : Cond.code yX12_laysMended cX12_laysMended 3 (some .int) ∈ zq_ws := zq_in (zq_t7 (List.mem_of_getElem? (i := 186) rfl)) rfl
theorem mv_X12_422 : zq_MV RX12 422 12 yX12_laysMended 0 := ⟨zq_in (zq_t7 (List.mem_of_getElem? (i := 183) rfl)) rfl, zq_in (zq_t7 (List.mem_of_getElem? (i := 185) rfl)) rfl, ⟨_, rfl, zq_in (zq_ts (List.mem_of_getElem? (i := 103) rfl)) rfl⟩, mi_X12_laysMended⟩
theorem mi_X12_firstName : zq_MI yX12_firstName 2 := ⟨zq_in (zq_t1 (List.mem_of_getElem? (i := 10) rfl)) rfl, ⟨by decide, by decide⟩, by decide +kernel⟩
theorem cw_X12_firstName : Cond.code yX12_firstName cX12_firstName 4 (some .int) ∈ zq_ws := zq_in (zq_t7 (List.mem_of_getElem? (i := 210) rfl)) rfl
theorem mv_X12_425 : zq_MV RX12 425 12 yX12_firstName 2 := ⟨zq_in (zq_t7 (List.mem_of_getElem? (i := 207) rfl)) rfl, zq_in (zq_t7 (List.mem_of_getElem? (i := 209) rfl)) rfl, ⟨_, rfl, zq_in (zq_ts (List.mem_of_getElem? (i := 109) rfl)) rfl⟩, mi_X12_firstName⟩
theorem mi_X12_mend : zq_MI yX12_mend 1 := ⟨zq_in (zq_t1 (List.mem_of_getElem? (i := 10) rfl)) rfl, ⟨by decide, by decide⟩, by decide +kernel⟩
theorem cw_X12_mend : Cond.code yX12_mend cX12_mend 5 (some .int) ∈ zq_ws := zq_in (zq_t7 (List.mem_of_getElem? (i := 182) rfl)) rfl
theorem mv_X12_428 : zq_MV RX12 428 12 yX12_mend 1 := ⟨zq_in (zq_t7 (List.mem_of_getElem? (i := 215) rfl)) rfl, zq_in (zq_t7 (List.mem_of_getElem? (i := 180) rfl)) rfl, ⟨_, rfl, zq_in (zq_t7 (List.mem_of_getElem? (i := 181) rfl)) rfl⟩, mi_X12_mend⟩
theorem mi_X12_saysOn : zq_MI yX12_saysOn 2 := ⟨zq_in (zq_t1 (List.mem_of_getElem? (i := 10) rfl)) rfl, ⟨by decide, by decide⟩, by decide +kernel⟩
theorem cw_X12_saysOn : Cond.code yX12_saysOn cX12_saysOn 3 (some .int) ∈ zq_ws := zq_in (zq_t7 (List.mem_of_getElem? (i := 227) rfl)) rfl
theorem mv_X12_431 : zq_MV RX12 431 12 yX12_saysOn 2 := ⟨zq_in (zq_t7 (List.mem_of_getElem? (i := 224) rfl)) rfl, zq_in (zq_t7 (List.mem_of_getElem? (i := 226) rfl)) rfl, ⟨_, rfl, zq_in (zq_ts (List.mem_of_getElem? (i := 111) rfl)) rfl⟩, mi_X12_saysOn⟩
theorem mi_X12_whispered : zq_MI yX12_whispered 1 := ⟨zq_in (zq_t1 (List.mem_of_getElem? (i := 10) rfl)) rfl, ⟨by decide, by decide⟩, by decide +kernel⟩
theorem cw_X12_whispered : Cond.code yX12_whispered cX12_whispered 4 (some .int) ∈ zq_ws := zq_in (zq_t7 (List.mem_of_getElem? (i := 223) rfl)) rfl
theorem mv_X12_434 : zq_MV RX12 434 12 yX12_whispered 1 := ⟨zq_in (zq_t7 (List.mem_of_getElem? (i := 220) rfl)) rfl, zq_in (zq_t7 (List.mem_of_getElem? (i := 222) rfl)) rfl, ⟨_, rfl, zq_in (zq_ts (List.mem_of_getElem? (i := 110) rfl)) rfl⟩, mi_X12_whispered⟩
theorem mi_X12_clearMany : zq_MI yX12_clearMany 1 := ⟨zq_in (zq_t1 (List.mem_of_getElem? (i := 10) rfl)) rfl, ⟨by decide, by decide⟩, by decide +kernel⟩
theorem cw_X12_clearMany : Cond.code yX12_clearMany cX12_clearMany 4 (some .int) ∈ zq_ws := zq_in (zq_t8 (List.mem_of_getElem? (i := 3) rfl)) rfl
theorem mv_X12_437 : zq_MV RX12 437 12 yX12_clearMany 1 := ⟨zq_in (zq_t8 (List.mem_of_getElem? (i := 0) rfl)) rfl, zq_in (zq_t8 (List.mem_of_getElem? (i := 2) rfl)) rfl, ⟨_, rfl, zq_in (zq_ts (List.mem_of_getElem? (i := 113) rfl)) rfl⟩, mi_X12_clearMany⟩
theorem fl_X12_440 : zq_FL RX12 440 12 40 := ⟨_, _, _, rfl, by decide, zq_in (zq_t5 (List.mem_of_getElem? (i := 159) rfl)) rfl⟩
theorem pl_X12_440 (nm : String) : zq_PL RX12 nm 440 12 40 := ⟨_, _, _, rfl, by decide, zq_in (zq_t5 (List.mem_of_getElem? (i := 159) rfl)) rfl, Or.inl rfl⟩
theorem mi_X12_triesOrder : zq_MI yX12_triesOrder 2 := ⟨zq_in (zq_t1 (List.mem_of_getElem? (i := 10) rfl)) rfl, ⟨by decide, by decide⟩, by decide +kernel⟩
theorem cw_X12_triesOrder : Cond.code yX12_triesOrder cX12_triesOrder 5 none ∈ zq_ws := zq_in (zq_t7 (List.mem_of_getElem? (i := 239) rfl)) rfl
theorem mv_X12_443 : zq_MV RX12 443 12 yX12_triesOrder 2 := ⟨zq_in (zq_t7 (List.mem_of_getElem? (i := 236) rfl)) rfl, zq_in (zq_t7 (List.mem_of_getElem? (i := 238) rfl)) rfl, ⟨_, rfl, zq_in (zq_ts (List.mem_of_getElem? (i := 112) rfl)) rfl⟩, mi_X12_triesOrder⟩
theorem kl_X12_446 : Cond.constantLong RX12 446 (-1) ∈ zq_ws := zq_in (zq_t8 (List.mem_of_getElem? (i := 8) rfl)) rfl
theorem kl_X12_448 : Cond.constantLong RX12 448 (1000000000000) ∈ zq_ws := zq_in (zq_t8 (List.mem_of_getElem? (i := 9) rfl)) rfl
theorem kl_X12_450 : Cond.constantLong RX12 450 (10) ∈ zq_ws := zq_in (zq_t8 (List.mem_of_getElem? (i := 10) rfl)) rfl
theorem mi_X12_keeps : zq_MI yX12_keeps 1 := ⟨zq_in (zq_t1 (List.mem_of_getElem? (i := 10) rfl)) rfl, ⟨by decide, by decide⟩, by decide +kernel⟩
theorem cw_X12_keeps : Cond.code yX12_keeps cX12_keeps 4 none ∈ zq_ws := zq_in (zq_t8 (List.mem_of_getElem? (i := 26) rfl)) rfl
theorem mv_X12_452 : zq_MV RX12 452 12 yX12_keeps 1 := ⟨zq_in (zq_t8 (List.mem_of_getElem? (i := 23) rfl)) rfl, zq_in (zq_t8 (List.mem_of_getElem? (i := 25) rfl)) rfl, ⟨_, rfl, zq_in (zq_ts (List.mem_of_getElem? (i := 115) rfl)) rfl⟩, mi_X12_keeps⟩
theorem mi_X12_withLetter : zq_MI yX12_withLetter 3 := ⟨zq_in (zq_t1 (List.mem_of_getElem? (i := 10) rfl)) rfl, ⟨by decide, by decide⟩, by decide +kernel⟩
theorem cw_X12_withLetter : Cond.code yX12_withLetter cX12_withLetter 3 (some .int) ∈ zq_ws := zq_in (zq_t8 (List.mem_of_getElem? (i := 29) rfl)) rfl
theorem ms_X12_455 : zq_MS RX12 455 yX12_withLetter 3 := ⟨Or.inl (zq_in (zq_t8 (List.mem_of_getElem? (i := 27) rfl)) rfl), zq_in (zq_t8 (List.mem_of_getElem? (i := 28) rfl)) rfl, mi_X12_withLetter⟩
theorem mi_X12_swapsNow : zq_MI yX12_swapsNow 1 := ⟨zq_in (zq_t1 (List.mem_of_getElem? (i := 10) rfl)) rfl, ⟨by decide, by decide⟩, by decide +kernel⟩
theorem cw_X12_swapsNow : Cond.code yX12_swapsNow cX12_swapsNow 3 none ∈ zq_ws := zq_in (zq_t8 (List.mem_of_getElem? (i := 45) rfl)) rfl
theorem mv_X12_458 : zq_MV RX12 458 12 yX12_swapsNow 1 := ⟨zq_in (zq_t8 (List.mem_of_getElem? (i := 42) rfl)) rfl, zq_in (zq_t8 (List.mem_of_getElem? (i := 44) rfl)) rfl, ⟨_, rfl, zq_in (zq_ts (List.mem_of_getElem? (i := 118) rfl)) rfl⟩, mi_X12_swapsNow⟩
theorem mi_X12_alphabet : zq_MI yX12_alphabet 0 := ⟨zq_in (zq_t1 (List.mem_of_getElem? (i := 10) rfl)) rfl, ⟨by decide, by decide⟩, by decide +kernel⟩
theorem cw_X12_alphabet : Cond.code yX12_alphabet cX12_alphabet 3 (some .int) ∈ zq_ws := zq_in (zq_t6 (List.mem_of_getElem? (i := 218) rfl)) rfl
theorem mv_X12_461 : zq_MV RX12 461 12 yX12_alphabet 0 := ⟨zq_in (zq_t8 (List.mem_of_getElem? (i := 54) rfl)) rfl, zq_in (zq_t6 (List.mem_of_getElem? (i := 216) rfl)) rfl, ⟨_, rfl, zq_in (zq_t6 (List.mem_of_getElem? (i := 217) rfl)) rfl⟩, mi_X12_alphabet⟩
theorem mi_X12_strokesKept : zq_MI yX12_strokesKept 3 := ⟨zq_in (zq_t1 (List.mem_of_getElem? (i := 10) rfl)) rfl, ⟨by decide, by decide⟩, by decide +kernel⟩
theorem cw_X12_strokesKept : Cond.code yX12_strokesKept cX12_strokesKept 6 (some .int) ∈ zq_ws := zq_in (zq_t8 (List.mem_of_getElem? (i := 22) rfl)) rfl
theorem mv_X12_464 : zq_MV RX12 464 12 yX12_strokesKept 3 := ⟨zq_in (zq_t8 (List.mem_of_getElem? (i := 19) rfl)) rfl, zq_in (zq_t8 (List.mem_of_getElem? (i := 21) rfl)) rfl, ⟨_, rfl, zq_in (zq_ts (List.mem_of_getElem? (i := 114) rfl)) rfl⟩, mi_X12_strokesKept⟩
theorem mi_X12_goodOr : zq_MI yX12_goodOr 1 := ⟨zq_in (zq_t1 (List.mem_of_getElem? (i := 10) rfl)) rfl, ⟨by decide, by decide⟩, by decide +kernel⟩
theorem cw_X12_goodOr : Cond.code yX12_goodOr cX12_goodOr 2 (some .int) ∈ zq_ws := zq_in (zq_t8 (List.mem_of_getElem? (i := 33) rfl)) rfl
theorem mv_X12_467 : zq_MV RX12 467 12 yX12_goodOr 1 := ⟨zq_in (zq_t8 (List.mem_of_getElem? (i := 30) rfl)) rfl, zq_in (zq_t8 (List.mem_of_getElem? (i := 32) rfl)) rfl, ⟨_, rfl, zq_in (zq_ts (List.mem_of_getElem? (i := 116) rfl)) rfl⟩, mi_X12_goodOr⟩
theorem mi_X12_swapsKept : zq_MI yX12_swapsKept 1 := ⟨zq_in (zq_t1 (List.mem_of_getElem? (i := 10) rfl)) rfl, ⟨by decide, by decide⟩, by decide +kernel⟩
theorem cw_X12_swapsKept : Cond.code yX12_swapsKept cX12_swapsKept 3 (some .int) ∈ zq_ws := zq_in (zq_t8 (List.mem_of_getElem? (i := 41) rfl)) rfl
theorem mv_X12_470 : zq_MV RX12 470 12 yX12_swapsKept 1 := ⟨zq_in (zq_t8 (List.mem_of_getElem? (i := 38) rfl)) rfl, zq_in (zq_t8 (List.mem_of_getElem? (i := 40) rfl)) rfl, ⟨_, rfl, zq_in (zq_ts (List.mem_of_getElem? (i := 117) rfl)) rfl⟩, mi_X12_swapsKept⟩
theorem mi_X12_decreesKept : zq_MI yX12_decreesKept 1 := ⟨zq_in (zq_t1 (List.mem_of_getElem? (i := 10) rfl)) rfl, ⟨by decide, by decide⟩, by decide +kernel⟩
theorem cw_X12_decreesKept : Cond.code yX12_decreesKept cX12_decreesKept 3 (some .int) ∈ zq_ws := zq_in (zq_t8 (List.mem_of_getElem? (i := 53) rfl)) rfl
theorem mv_X12_473 : zq_MV RX12 473 12 yX12_decreesKept 1 := ⟨zq_in (zq_t8 (List.mem_of_getElem? (i := 50) rfl)) rfl, zq_in (zq_t8 (List.mem_of_getElem? (i := 52) rfl)) rfl, ⟨_, rfl, zq_in (zq_ts (List.mem_of_getElem? (i := 119) rfl)) rfl⟩, mi_X12_decreesKept⟩
theorem mi_X12_passesKept : zq_MI yX12_passesKept 0 := ⟨zq_in (zq_t1 (List.mem_of_getElem? (i := 10) rfl)) rfl, ⟨by decide, by decide⟩, by decide +kernel⟩
theorem cw_X12_passesKept : Cond.code yX12_passesKept cX12_passesKept 1 (some .int) ∈ zq_ws := zq_in (zq_t8 (List.mem_of_getElem? (i := 62) rfl)) rfl
theorem mv_X12_476 : zq_MV RX12 476 12 yX12_passesKept 0 := ⟨zq_in (zq_t8 (List.mem_of_getElem? (i := 59) rfl)) rfl, zq_in (zq_t8 (List.mem_of_getElem? (i := 61) rfl)) rfl, ⟨_, rfl, zq_in (zq_ts (List.mem_of_getElem? (i := 120) rfl)) rfl⟩, mi_X12_passesKept⟩
theorem mi_X12_laysAside : zq_MI yX12_laysAside 1 := ⟨zq_in (zq_t1 (List.mem_of_getElem? (i := 10) rfl)) rfl, ⟨by decide, by decide⟩, by decide +kernel⟩
theorem cw_X12_laysAside : Cond.code yX12_laysAside cX12_laysAside 3 none ∈ zq_ws := zq_in (zq_t8 (List.mem_of_getElem? (i := 74) rfl)) rfl
theorem mv_X12_479 : zq_MV RX12 479 12 yX12_laysAside 1 := ⟨zq_in (zq_t8 (List.mem_of_getElem? (i := 71) rfl)) rfl, zq_in (zq_t8 (List.mem_of_getElem? (i := 73) rfl)) rfl, ⟨_, rfl, zq_in (zq_ts (List.mem_of_getElem? (i := 121) rfl)) rfl⟩, mi_X12_laysAside⟩
theorem fl_X12_482 : zq_FL RX12 482 12 46 := ⟨_, _, _, rfl, by decide, zq_in (zq_t5 (List.mem_of_getElem? (i := 165) rfl)) rfl⟩
theorem pl_X12_482 (nm : String) : zq_PL RX12 nm 482 12 46 := ⟨_, _, _, rfl, by decide, zq_in (zq_t5 (List.mem_of_getElem? (i := 165) rfl)) rfl, Or.inl rfl⟩
theorem mi_X12_runs : zq_MI yX12_runs 1 := ⟨zq_in (zq_t1 (List.mem_of_getElem? (i := 10) rfl)) rfl, ⟨by decide, by decide⟩, by decide +kernel⟩
theorem cw_X12_runs : Cond.code yX12_runs cX12_runs 5 (some .boolean) ∈ zq_ws := zq_in (zq_t8 (List.mem_of_getElem? (i := 78) rfl)) rfl
theorem mv_X12_485 : zq_MV RX12 485 12 yX12_runs 1 := ⟨zq_in (zq_t8 (List.mem_of_getElem? (i := 75) rfl)) rfl, zq_in (zq_t8 (List.mem_of_getElem? (i := 77) rfl)) rfl, ⟨_, rfl, zq_in (zq_ts (List.mem_of_getElem? (i := 122) rfl)) rfl⟩, mi_X12_runs⟩
theorem mi_X12_takesBack : zq_MI yX12_takesBack 1 := ⟨zq_in (zq_t1 (List.mem_of_getElem? (i := 10) rfl)) rfl, ⟨by decide, by decide⟩, by decide +kernel⟩
theorem cw_X12_takesBack : Cond.code yX12_takesBack cX12_takesBack 3 none ∈ zq_ws := zq_in (zq_t8 (List.mem_of_getElem? (i := 94) rfl)) rfl
theorem mv_X12_488 : zq_MV RX12 488 12 yX12_takesBack 1 := ⟨zq_in (zq_t8 (List.mem_of_getElem? (i := 91) rfl)) rfl, zq_in (zq_t8 (List.mem_of_getElem? (i := 93) rfl)) rfl, ⟨_, rfl, zq_in (zq_ts (List.mem_of_getElem? (i := 125) rfl)) rfl⟩, mi_X12_takesBack⟩
theorem fl_X12_491 : zq_FL RX12 491 12 48 := ⟨_, _, _, rfl, by decide, zq_in (zq_t5 (List.mem_of_getElem? (i := 167) rfl)) rfl⟩
theorem pl_X12_491 (nm : String) : zq_PL RX12 nm 491 12 48 := ⟨_, _, _, rfl, by decide, zq_in (zq_t5 (List.mem_of_getElem? (i := 167) rfl)) rfl, Or.inl rfl⟩
theorem fl_X12_494 : zq_FL RX12 494 12 49 := ⟨_, _, _, rfl, by decide, zq_in (zq_t5 (List.mem_of_getElem? (i := 168) rfl)) rfl⟩
theorem pl_X12_494 (nm : String) : zq_PL RX12 nm 494 12 49 := ⟨_, _, _, rfl, by decide, zq_in (zq_t5 (List.mem_of_getElem? (i := 168) rfl)) rfl, Or.inl rfl⟩
theorem fl_X12_497 : zq_FL RX12 497 12 47 := ⟨_, _, _, rfl, by decide, zq_in (zq_t5 (List.mem_of_getElem? (i := 166) rfl)) rfl⟩
theorem pl_X12_497 (nm : String) : zq_PL RX12 nm 497 12 47 := ⟨_, _, _, rfl, by decide, zq_in (zq_t5 (List.mem_of_getElem? (i := 166) rfl)) rfl, Or.inl rfl⟩
theorem fl_X12_500 : zq_FL RX12 500 12 50 := ⟨_, _, _, rfl, by decide, zq_in (zq_t5 (List.mem_of_getElem? (i := 169) rfl)) rfl⟩
theorem pl_X12_500 (nm : String) : zq_PL RX12 nm 500 12 50 := ⟨_, _, _, rfl, by decide, zq_in (zq_t5 (List.mem_of_getElem? (i := 169) rfl)) rfl, Or.inl rfl⟩
theorem kl_X12_503 : Cond.constantLong RX12 503 (1000000) ∈ zq_ws := zq_in (zq_t8 (List.mem_of_getElem? (i := 90) rfl)) rfl
theorem mi_X12_small : zq_MI yX12_small 1 := ⟨zq_in (zq_t1 (List.mem_of_getElem? (i := 10) rfl)) rfl, ⟨by decide, by decide⟩, by decide +kernel⟩
theorem cw_X12_small : Cond.code yX12_small cX12_small 2 (some .int) ∈ zq_ws := zq_in (zq_t8 (List.mem_of_getElem? (i := 89) rfl)) rfl
theorem ms_X12_505 : zq_MS RX12 505 yX12_small 1 := ⟨Or.inl (zq_in (zq_t8 (List.mem_of_getElem? (i := 87) rfl)) rfl), zq_in (zq_t8 (List.mem_of_getElem? (i := 88) rfl)) rfl, mi_X12_small⟩
theorem mi_X12_goesAlong : zq_MI yX12_goesAlong 2 := ⟨zq_in (zq_t1 (List.mem_of_getElem? (i := 10) rfl)) rfl, ⟨by decide, by decide⟩, by decide +kernel⟩
theorem cw_X12_goesAlong : Cond.code yX12_goesAlong cX12_goesAlong 5 none ∈ zq_ws := zq_in (zq_t8 (List.mem_of_getElem? (i := 82) rfl)) rfl
theorem mv_X12_509 : zq_MV RX12 509 12 yX12_goesAlong 2 := ⟨zq_in (zq_t8 (List.mem_of_getElem? (i := 79) rfl)) rfl, zq_in (zq_t8 (List.mem_of_getElem? (i := 81) rfl)) rfl, ⟨_, rfl, zq_in (zq_ts (List.mem_of_getElem? (i := 123) rfl)) rfl⟩, mi_X12_goesAlong⟩
theorem mi_X12_obeys : zq_MI yX12_obeys 0 := ⟨zq_in (zq_t1 (List.mem_of_getElem? (i := 10) rfl)) rfl, ⟨by decide, by decide⟩, by decide +kernel⟩
theorem cw_X12_obeys : Cond.code yX12_obeys cX12_obeys 3 (some .int) ∈ zq_ws := zq_in (zq_t8 (List.mem_of_getElem? (i := 86) rfl)) rfl
theorem mv_X12_513 : zq_MV RX12 513 12 yX12_obeys 0 := ⟨zq_in (zq_t8 (List.mem_of_getElem? (i := 83) rfl)) rfl, zq_in (zq_t8 (List.mem_of_getElem? (i := 85) rfl)) rfl, ⟨_, rfl, zq_in (zq_ts (List.mem_of_getElem? (i := 124) rfl)) rfl⟩, mi_X12_obeys⟩
theorem kl_X12_516 : Cond.constantLong RX12 516 (1103) ∈ zq_ws := zq_in (zq_t8 (List.mem_of_getElem? (i := 107) rfl)) rfl
theorem fl_X12_518 : zq_FL RX12 518 12 54 := ⟨_, _, _, rfl, by decide, zq_in (zq_t5 (List.mem_of_getElem? (i := 173) rfl)) rfl⟩
theorem pl_X12_518 (nm : String) : zq_PL RX12 nm 518 12 54 := ⟨_, _, _, rfl, by decide, zq_in (zq_t5 (List.mem_of_getElem? (i := 173) rfl)) rfl, Or.inl rfl⟩
theorem kl_X12_521 : Cond.constantLong RX12 521 (12345) ∈ zq_ws := zq_in (zq_t8 (List.mem_of_getElem? (i := 108) rfl)) rfl
theorem kl_X12_523 : Cond.constantLong RX12 523 (1000003) ∈ zq_ws := zq_in (zq_t8 (List.mem_of_getElem? (i := 109) rfl)) rfl
theorem mi_X12_draws : zq_MI yX12_draws 1 := ⟨zq_in (zq_t1 (List.mem_of_getElem? (i := 10) rfl)) rfl, ⟨by decide, by decide⟩, by decide +kernel⟩
theorem cw_X12_draws : Cond.code yX12_draws cX12_draws 2 (some .int) ∈ zq_ws := zq_in (zq_t8 (List.mem_of_getElem? (i := 106) rfl)) rfl
theorem mv_X12_525 : zq_MV RX12 525 12 yX12_draws 1 := ⟨zq_in (zq_t8 (List.mem_of_getElem? (i := 103) rfl)) rfl, zq_in (zq_t8 (List.mem_of_getElem? (i := 105) rfl)) rfl, ⟨_, rfl, zq_in (zq_ts (List.mem_of_getElem? (i := 127) rfl)) rfl⟩, mi_X12_draws⟩
theorem mi_X12_dayIsDrawn : zq_MI yX12_dayIsDrawn 0 := ⟨zq_in (zq_t1 (List.mem_of_getElem? (i := 10) rfl)) rfl, ⟨by decide, by decide⟩, by decide +kernel⟩
theorem cw_X12_dayIsDrawn : Cond.code yX12_dayIsDrawn cX12_dayIsDrawn 4 none ∈ zq_ws := zq_in (zq_t8 (List.mem_of_getElem? (i := 102) rfl)) rfl
theorem mv_X12_528 : zq_MV RX12 528 12 yX12_dayIsDrawn 0 := ⟨zq_in (zq_t8 (List.mem_of_getElem? (i := 99) rfl)) rfl, zq_in (zq_t8 (List.mem_of_getElem? (i := 101) rfl)) rfl, ⟨_, rfl, zq_in (zq_ts (List.mem_of_getElem? (i := 126) rfl)) rfl⟩, mi_X12_dayIsDrawn⟩
